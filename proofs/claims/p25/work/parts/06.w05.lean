theorem gd_X12_write1_0 : decode cX12_write1 0 = .ok (.aload_n 0, 1) ∧ decode cX12_write1 1 = .ok (.getfield 337, 3) ∧ decode cX12_write1 4 = .ok (.iload_n 3, 1) ∧ decode cX12_write1 5 = .ok (.iadd, 1) ∧ decode cX12_write1 6 = .ok (.sipush 2500, 3) ∧ decode cX12_write1 9 = .ok (.if_icmp .le 5, 3) ∧ decode cX12_write1 12 = .ok (.iconst 0, 1) ∧ decode cX12_write1 13 = .ok (.ireturn, 1) ∧ decode cX12_write1 14 = .ok (.iconst 0, 1) ∧ decode cX12_write1 15 = .ok (.istore 4, 2) := by decide +kernel
theorem dX12_write1_0 : decode cX12_write1 0 = .ok (.aload_n 0, 1) := gd_X12_write1_0.1
theorem dX12_write1_1 : decode cX12_write1 1 = .ok (.getfield 337, 3) := gd_X12_write1_0.2.1
theorem dX12_write1_4 : decode cX12_write1 4 = .ok (.iload_n 3, 1) := gd_X12_write1_0.2.2.1
theorem dX12_write1_5 : decode cX12_write1 5 = .ok (.iadd, 1) := gd_X12_write1_0.2.2.2.1
theorem dX12_write1_6 : decode cX12_write1 6 = .ok (.sipush 2500, 3) := gd_X12_write1_0.2.2.2.2.1
theorem dX12_write1_9 : decode cX12_write1 9 = .ok (.if_icmp .le 5, 3) := gd_X12_write1_0.2.2.2.2.2.1
theorem dX12_write1_12 : decode cX12_write1 12 = .ok (.iconst 0, 1) := gd_X12_write1_0.2.2.2.2.2.2.1
theorem dX12_write1_13 : decode cX12_write1 13 = .ok (.ireturn, 1) := gd_X12_write1_0.2.2.2.2.2.2.2.1
theorem dX12_write1_14 : decode cX12_write1 14 = .ok (.iconst 0, 1) := gd_X12_write1_0.2.2.2.2.2.2.2.2.1
theorem dX12_write1_15 : decode cX12_write1 15 = .ok (.istore 4, 2) := gd_X12_write1_0.2.2.2.2.2.2.2.2.2
theorem gd_X12_write1_17 : decode cX12_write1 17 = .ok (.iload 4, 2) ∧ decode cX12_write1 19 = .ok (.iload_n 3, 1) ∧ decode cX12_write1 20 = .ok (.if_icmp .ge 27, 3) ∧ decode cX12_write1 23 = .ok (.aload_n 0, 1) ∧ decode cX12_write1 24 = .ok (.getfield 134, 3) ∧ decode cX12_write1 27 = .ok (.aload_n 0, 1) ∧ decode cX12_write1 28 = .ok (.getfield 337, 3) ∧ decode cX12_write1 31 = .ok (.iload 4, 2) ∧ decode cX12_write1 33 = .ok (.iadd, 1) ∧ decode cX12_write1 34 = .ok (.aload_n 1, 1) := by decide +kernel
theorem dX12_write1_17 : decode cX12_write1 17 = .ok (.iload 4, 2) := gd_X12_write1_17.1
theorem dX12_write1_19 : decode cX12_write1 19 = .ok (.iload_n 3, 1) := gd_X12_write1_17.2.1
theorem dX12_write1_20 : decode cX12_write1 20 = .ok (.if_icmp .ge 27, 3) := gd_X12_write1_17.2.2.1
theorem dX12_write1_23 : decode cX12_write1 23 = .ok (.aload_n 0, 1) := gd_X12_write1_17.2.2.2.1
theorem dX12_write1_24 : decode cX12_write1 24 = .ok (.getfield 134, 3) := gd_X12_write1_17.2.2.2.2.1
theorem dX12_write1_27 : decode cX12_write1 27 = .ok (.aload_n 0, 1) := gd_X12_write1_17.2.2.2.2.2.1
theorem dX12_write1_28 : decode cX12_write1 28 = .ok (.getfield 337, 3) := gd_X12_write1_17.2.2.2.2.2.2.1
theorem dX12_write1_31 : decode cX12_write1 31 = .ok (.iload 4, 2) := gd_X12_write1_17.2.2.2.2.2.2.2.1
theorem dX12_write1_33 : decode cX12_write1 33 = .ok (.iadd, 1) := gd_X12_write1_17.2.2.2.2.2.2.2.2.1
theorem dX12_write1_34 : decode cX12_write1 34 = .ok (.aload_n 1, 1) := gd_X12_write1_17.2.2.2.2.2.2.2.2.2
theorem gd_X12_write1_35 : decode cX12_write1 35 = .ok (.iload_n 2, 1) ∧ decode cX12_write1 36 = .ok (.iload 4, 2) ∧ decode cX12_write1 38 = .ok (.iadd, 1) ∧ decode cX12_write1 39 = .ok (.baload, 1) ∧ decode cX12_write1 40 = .ok (.bastore, 1) ∧ decode cX12_write1 41 = .ok (.iinc 4 1, 3) ∧ decode cX12_write1 44 = .ok (.goto (-27), 3) ∧ decode cX12_write1 47 = .ok (.aload_n 0, 1) ∧ decode cX12_write1 48 = .ok (.dup, 1) ∧ decode cX12_write1 49 = .ok (.getfield 337, 3) := by decide +kernel
theorem dX12_write1_35 : decode cX12_write1 35 = .ok (.iload_n 2, 1) := gd_X12_write1_35.1
theorem dX12_write1_36 : decode cX12_write1 36 = .ok (.iload 4, 2) := gd_X12_write1_35.2.1
theorem dX12_write1_38 : decode cX12_write1 38 = .ok (.iadd, 1) := gd_X12_write1_35.2.2.1
theorem dX12_write1_39 : decode cX12_write1 39 = .ok (.baload, 1) := gd_X12_write1_35.2.2.2.1
theorem dX12_write1_40 : decode cX12_write1 40 = .ok (.bastore, 1) := gd_X12_write1_35.2.2.2.2.1
theorem dX12_write1_41 : decode cX12_write1 41 = .ok (.iinc 4 1, 3) := gd_X12_write1_35.2.2.2.2.2.1
theorem dX12_write1_44 : decode cX12_write1 44 = .ok (.goto (-27), 3) := gd_X12_write1_35.2.2.2.2.2.2.1
theorem dX12_write1_47 : decode cX12_write1 47 = .ok (.aload_n 0, 1) := gd_X12_write1_35.2.2.2.2.2.2.2.1
theorem dX12_write1_48 : decode cX12_write1 48 = .ok (.dup, 1) := gd_X12_write1_35.2.2.2.2.2.2.2.2.1
theorem dX12_write1_49 : decode cX12_write1 49 = .ok (.getfield 337, 3) := gd_X12_write1_35.2.2.2.2.2.2.2.2.2
theorem gd_X12_write1_52 : decode cX12_write1 52 = .ok (.iload_n 3, 1) ∧ decode cX12_write1 53 = .ok (.iadd, 1) ∧ decode cX12_write1 54 = .ok (.putfield 337, 3) ∧ decode cX12_write1 57 = .ok (.iconst 1, 1) ∧ decode cX12_write1 58 = .ok (.ireturn, 1) ∧ decode cX12_writeWord 0 = .ok (.aload_n 0, 1) ∧ decode cX12_writeWord 1 = .ok (.iload_n 1, 1) ∧ decode cX12_writeWord 2 = .ok (.iload_n 2, 1) ∧ decode cX12_writeWord 3 = .ok (.invokevirtual 340, 3) ∧ decode cX12_writeWord 6 = .ok (.ifCond .eq 26, 3) := by decide +kernel
theorem dX12_write1_52 : decode cX12_write1 52 = .ok (.iload_n 3, 1) := gd_X12_write1_52.1
theorem dX12_write1_53 : decode cX12_write1 53 = .ok (.iadd, 1) := gd_X12_write1_52.2.1
theorem dX12_write1_54 : decode cX12_write1 54 = .ok (.putfield 337, 3) := gd_X12_write1_52.2.2.1
theorem dX12_write1_57 : decode cX12_write1 57 = .ok (.iconst 1, 1) := gd_X12_write1_52.2.2.2.1
theorem dX12_write1_58 : decode cX12_write1 58 = .ok (.ireturn, 1) := gd_X12_write1_52.2.2.2.2.1
theorem dX12_writeWord_0 : decode cX12_writeWord 0 = .ok (.aload_n 0, 1) := gd_X12_write1_52.2.2.2.2.2.1
theorem dX12_writeWord_1 : decode cX12_writeWord 1 = .ok (.iload_n 1, 1) := gd_X12_write1_52.2.2.2.2.2.2.1
theorem dX12_writeWord_2 : decode cX12_writeWord 2 = .ok (.iload_n 2, 1) := gd_X12_write1_52.2.2.2.2.2.2.2.1
theorem dX12_writeWord_3 : decode cX12_writeWord 3 = .ok (.invokevirtual 340, 3) := gd_X12_write1_52.2.2.2.2.2.2.2.2.1
theorem dX12_writeWord_6 : decode cX12_writeWord 6 = .ok (.ifCond .eq 26, 3) := gd_X12_write1_52.2.2.2.2.2.2.2.2.2
theorem gd_X12_writeWord_9 : decode cX12_writeWord 9 = .ok (.aload_n 0, 1) ∧ decode cX12_writeWord 10 = .ok (.getfield 140, 3) ∧ decode cX12_writeWord 13 = .ok (.iconst 4, 1) ∧ decode cX12_writeWord 14 = .ok (.dup2, 1) ∧ decode cX12_writeWord 15 = .ok (.iaload, 1) ∧ decode cX12_writeWord 16 = .ok (.iconst 1, 1) ∧ decode cX12_writeWord 17 = .ok (.iadd, 1) ∧ decode cX12_writeWord 18 = .ok (.iastore, 1) ∧ decode cX12_writeWord 19 = .ok (.aload_n 0, 1) ∧ decode cX12_writeWord 20 = .ok (.aload_n 0, 1) := by decide +kernel
theorem dX12_writeWord_9 : decode cX12_writeWord 9 = .ok (.aload_n 0, 1) := gd_X12_writeWord_9.1
theorem dX12_writeWord_10 : decode cX12_writeWord 10 = .ok (.getfield 140, 3) := gd_X12_writeWord_9.2.1
theorem dX12_writeWord_13 : decode cX12_writeWord 13 = .ok (.iconst 4, 1) := gd_X12_writeWord_9.2.2.1
theorem dX12_writeWord_14 : decode cX12_writeWord 14 = .ok (.dup2, 1) := gd_X12_writeWord_9.2.2.2.1
theorem dX12_writeWord_15 : decode cX12_writeWord 15 = .ok (.iaload, 1) := gd_X12_writeWord_9.2.2.2.2.1
theorem dX12_writeWord_16 : decode cX12_writeWord 16 = .ok (.iconst 1, 1) := gd_X12_writeWord_9.2.2.2.2.2.1
theorem dX12_writeWord_17 : decode cX12_writeWord 17 = .ok (.iadd, 1) := gd_X12_writeWord_9.2.2.2.2.2.2.1
theorem dX12_writeWord_18 : decode cX12_writeWord 18 = .ok (.iastore, 1) := gd_X12_writeWord_9.2.2.2.2.2.2.2.1
theorem dX12_writeWord_19 : decode cX12_writeWord 19 = .ok (.aload_n 0, 1) := gd_X12_writeWord_9.2.2.2.2.2.2.2.2.1
theorem dX12_writeWord_20 : decode cX12_writeWord 20 = .ok (.aload_n 0, 1) := gd_X12_writeWord_9.2.2.2.2.2.2.2.2.2
theorem gd_X12_writeWord_21 : decode cX12_writeWord 21 = .ok (.getfield 7, 3) ∧ decode cX12_writeWord 24 = .ok (.iload_n 1, 1) ∧ decode cX12_writeWord 25 = .ok (.iload_n 2, 1) ∧ decode cX12_writeWord 26 = .ok (.iload_n 1, 1) ∧ decode cX12_writeWord 27 = .ok (.isub, 1) ∧ decode cX12_writeWord 28 = .ok (.invokevirtual 344, 3) ∧ decode cX12_writeWord 31 = .ok (.ireturn, 1) ∧ decode cX12_writeWord 32 = .ok (.aload_n 0, 1) ∧ decode cX12_writeWord 33 = .ok (.getfield 140, 3) ∧ decode cX12_writeWord 36 = .ok (.iconst 0, 1) := by decide +kernel
theorem dX12_writeWord_21 : decode cX12_writeWord 21 = .ok (.getfield 7, 3) := gd_X12_writeWord_21.1
theorem dX12_writeWord_24 : decode cX12_writeWord 24 = .ok (.iload_n 1, 1) := gd_X12_writeWord_21.2.1
theorem dX12_writeWord_25 : decode cX12_writeWord 25 = .ok (.iload_n 2, 1) := gd_X12_writeWord_21.2.2.1
theorem dX12_writeWord_26 : decode cX12_writeWord 26 = .ok (.iload_n 1, 1) := gd_X12_writeWord_21.2.2.2.1
theorem dX12_writeWord_27 : decode cX12_writeWord 27 = .ok (.isub, 1) := gd_X12_writeWord_21.2.2.2.2.1
theorem dX12_writeWord_28 : decode cX12_writeWord 28 = .ok (.invokevirtual 344, 3) := gd_X12_writeWord_21.2.2.2.2.2.1
theorem dX12_writeWord_31 : decode cX12_writeWord 31 = .ok (.ireturn, 1) := gd_X12_writeWord_21.2.2.2.2.2.2.1
theorem dX12_writeWord_32 : decode cX12_writeWord 32 = .ok (.aload_n 0, 1) := gd_X12_writeWord_21.2.2.2.2.2.2.2.1
theorem dX12_writeWord_33 : decode cX12_writeWord 33 = .ok (.getfield 140, 3) := gd_X12_writeWord_21.2.2.2.2.2.2.2.2.1
theorem dX12_writeWord_36 : decode cX12_writeWord 36 = .ok (.iconst 0, 1) := gd_X12_writeWord_21.2.2.2.2.2.2.2.2.2
theorem gd_X12_writeWord_37 : decode cX12_writeWord 37 = .ok (.dup2, 1) ∧ decode cX12_writeWord 38 = .ok (.iaload, 1) ∧ decode cX12_writeWord 39 = .ok (.iconst 1, 1) ∧ decode cX12_writeWord 40 = .ok (.iadd, 1) ∧ decode cX12_writeWord 41 = .ok (.iastore, 1) ∧ decode cX12_writeWord 42 = .ok (.aload_n 0, 1) ∧ decode cX12_writeWord 43 = .ok (.iconst 0, 1) ∧ decode cX12_writeWord 44 = .ok (.putfield 287, 3) ∧ decode cX12_writeWord 47 = .ok (.iload_n 2, 1) ∧ decode cX12_writeWord 48 = .ok (.iload_n 1, 1) := by decide +kernel
theorem dX12_writeWord_37 : decode cX12_writeWord 37 = .ok (.dup2, 1) := gd_X12_writeWord_37.1
theorem dX12_writeWord_38 : decode cX12_writeWord 38 = .ok (.iaload, 1) := gd_X12_writeWord_37.2.1
theorem dX12_writeWord_39 : decode cX12_writeWord 39 = .ok (.iconst 1, 1) := gd_X12_writeWord_37.2.2.1
theorem dX12_writeWord_40 : decode cX12_writeWord 40 = .ok (.iadd, 1) := gd_X12_writeWord_37.2.2.2.1
theorem dX12_writeWord_41 : decode cX12_writeWord 41 = .ok (.iastore, 1) := gd_X12_writeWord_37.2.2.2.2.1
theorem dX12_writeWord_42 : decode cX12_writeWord 42 = .ok (.aload_n 0, 1) := gd_X12_writeWord_37.2.2.2.2.2.1
theorem dX12_writeWord_43 : decode cX12_writeWord 43 = .ok (.iconst 0, 1) := gd_X12_writeWord_37.2.2.2.2.2.2.1
theorem dX12_writeWord_44 : decode cX12_writeWord 44 = .ok (.putfield 287, 3) := gd_X12_writeWord_37.2.2.2.2.2.2.2.1
theorem dX12_writeWord_47 : decode cX12_writeWord 47 = .ok (.iload_n 2, 1) := gd_X12_writeWord_37.2.2.2.2.2.2.2.2.1
theorem dX12_writeWord_48 : decode cX12_writeWord 48 = .ok (.iload_n 1, 1) := gd_X12_writeWord_37.2.2.2.2.2.2.2.2.2
theorem gd_X12_writeWord_49 : decode cX12_writeWord 49 = .ok (.isub, 1) ∧ decode cX12_writeWord 50 = .ok (.bipush 24, 2) ∧ decode cX12_writeWord 52 = .ok (.if_icmp .gt 22, 3) ∧ decode cX12_writeWord 55 = .ok (.aload_n 0, 1) ∧ decode cX12_writeWord 56 = .ok (.aload_n 0, 1) ∧ decode cX12_writeWord 57 = .ok (.getfield 7, 3) ∧ decode cX12_writeWord 60 = .ok (.iload_n 1, 1) ∧ decode cX12_writeWord 61 = .ok (.iload_n 2, 1) ∧ decode cX12_writeWord 62 = .ok (.iload_n 1, 1) ∧ decode cX12_writeWord 63 = .ok (.isub, 1) := by decide +kernel
theorem dX12_writeWord_49 : decode cX12_writeWord 49 = .ok (.isub, 1) := gd_X12_writeWord_49.1
theorem dX12_writeWord_50 : decode cX12_writeWord 50 = .ok (.bipush 24, 2) := gd_X12_writeWord_49.2.1
theorem dX12_writeWord_52 : decode cX12_writeWord 52 = .ok (.if_icmp .gt 22, 3) := gd_X12_writeWord_49.2.2.1
theorem dX12_writeWord_55 : decode cX12_writeWord 55 = .ok (.aload_n 0, 1) := gd_X12_writeWord_49.2.2.2.1
theorem dX12_writeWord_56 : decode cX12_writeWord 56 = .ok (.aload_n 0, 1) := gd_X12_writeWord_49.2.2.2.2.1
theorem dX12_writeWord_57 : decode cX12_writeWord 57 = .ok (.getfield 7, 3) := gd_X12_writeWord_49.2.2.2.2.2.1
theorem dX12_writeWord_60 : decode cX12_writeWord 60 = .ok (.iload_n 1, 1) := gd_X12_writeWord_49.2.2.2.2.2.2.1
theorem dX12_writeWord_61 : decode cX12_writeWord 61 = .ok (.iload_n 2, 1) := gd_X12_writeWord_49.2.2.2.2.2.2.2.1
theorem dX12_writeWord_62 : decode cX12_writeWord 62 = .ok (.iload_n 1, 1) := gd_X12_writeWord_49.2.2.2.2.2.2.2.2.1
theorem dX12_writeWord_63 : decode cX12_writeWord 63 = .ok (.isub, 1) := gd_X12_writeWord_49.2.2.2.2.2.2.2.2.2
theorem gd_X12_writeWord_64 : decode cX12_writeWord 64 = .ok (.invokevirtual 290, 3) ∧ decode cX12_writeWord 67 = .ok (.aload_n 0, 1) ∧ decode cX12_writeWord 68 = .ok (.iload_n 3, 1) ∧ decode cX12_writeWord 69 = .ok (.iload 4, 2) ∧ decode cX12_writeWord 71 = .ok (.invokevirtual 303, 3) ∧ decode cX12_writeWord 74 = .ok (.aload_n 0, 1) ∧ decode cX12_writeWord 75 = .ok (.getfield 140, 3) ∧ decode cX12_writeWord 78 = .ok (.iconst 2, 1) ∧ decode cX12_writeWord 79 = .ok (.dup2, 1) ∧ decode cX12_writeWord 80 = .ok (.iaload, 1) := by decide +kernel
theorem dX12_writeWord_64 : decode cX12_writeWord 64 = .ok (.invokevirtual 290, 3) := gd_X12_writeWord_64.1
theorem dX12_writeWord_67 : decode cX12_writeWord 67 = .ok (.aload_n 0, 1) := gd_X12_writeWord_64.2.1
theorem dX12_writeWord_68 : decode cX12_writeWord 68 = .ok (.iload_n 3, 1) := gd_X12_writeWord_64.2.2.1
theorem dX12_writeWord_69 : decode cX12_writeWord 69 = .ok (.iload 4, 2) := gd_X12_writeWord_64.2.2.2.1
theorem dX12_writeWord_71 : decode cX12_writeWord 71 = .ok (.invokevirtual 303, 3) := gd_X12_writeWord_64.2.2.2.2.1
theorem dX12_writeWord_74 : decode cX12_writeWord 74 = .ok (.aload_n 0, 1) := gd_X12_writeWord_64.2.2.2.2.2.1
theorem dX12_writeWord_75 : decode cX12_writeWord 75 = .ok (.getfield 140, 3) := gd_X12_writeWord_64.2.2.2.2.2.2.1
theorem dX12_writeWord_78 : decode cX12_writeWord 78 = .ok (.iconst 2, 1) := gd_X12_writeWord_64.2.2.2.2.2.2.2.1
theorem dX12_writeWord_79 : decode cX12_writeWord 79 = .ok (.dup2, 1) := gd_X12_writeWord_64.2.2.2.2.2.2.2.2.1
theorem dX12_writeWord_80 : decode cX12_writeWord 80 = .ok (.iaload, 1) := gd_X12_writeWord_64.2.2.2.2.2.2.2.2.2
theorem gd_X12_writeWord_81 : decode cX12_writeWord 81 = .ok (.aload_n 0, 1) ∧ decode cX12_writeWord 82 = .ok (.getfield 287, 3) ∧ decode cX12_writeWord 85 = .ok (.iconst 1, 1) ∧ decode cX12_writeWord 86 = .ok (.if_icmp .le 7, 3) ∧ decode cX12_writeWord 89 = .ok (.iconst 1, 1) ∧ decode cX12_writeWord 90 = .ok (.goto 4, 3) ∧ decode cX12_writeWord 93 = .ok (.iconst 0, 1) ∧ decode cX12_writeWord 94 = .ok (.iadd, 1) ∧ decode cX12_writeWord 95 = .ok (.iastore, 1) ∧ decode cX12_writeWord 96 = .ok (.aload_n 0, 1) := by decide +kernel
theorem dX12_writeWord_81 : decode cX12_writeWord 81 = .ok (.aload_n 0, 1) := gd_X12_writeWord_81.1
theorem dX12_writeWord_82 : decode cX12_writeWord 82 = .ok (.getfield 287, 3) := gd_X12_writeWord_81.2.1
theorem dX12_writeWord_85 : decode cX12_writeWord 85 = .ok (.iconst 1, 1) := gd_X12_writeWord_81.2.2.1
theorem dX12_writeWord_86 : decode cX12_writeWord 86 = .ok (.if_icmp .le 7, 3) := gd_X12_writeWord_81.2.2.2.1
theorem dX12_writeWord_89 : decode cX12_writeWord 89 = .ok (.iconst 1, 1) := gd_X12_writeWord_81.2.2.2.2.1
theorem dX12_writeWord_90 : decode cX12_writeWord 90 = .ok (.goto 4, 3) := gd_X12_writeWord_81.2.2.2.2.2.1
theorem dX12_writeWord_93 : decode cX12_writeWord 93 = .ok (.iconst 0, 1) := gd_X12_writeWord_81.2.2.2.2.2.2.1
theorem dX12_writeWord_94 : decode cX12_writeWord 94 = .ok (.iadd, 1) := gd_X12_writeWord_81.2.2.2.2.2.2.2.1
theorem dX12_writeWord_95 : decode cX12_writeWord 95 = .ok (.iastore, 1) := gd_X12_writeWord_81.2.2.2.2.2.2.2.2.1
theorem dX12_writeWord_96 : decode cX12_writeWord 96 = .ok (.aload_n 0, 1) := gd_X12_writeWord_81.2.2.2.2.2.2.2.2.2
theorem gd_X12_writeWord_97 : decode cX12_writeWord 97 = .ok (.getfield 140, 3) ∧ decode cX12_writeWord 100 = .ok (.iconst 3, 1) ∧ decode cX12_writeWord 101 = .ok (.dup2, 1) ∧ decode cX12_writeWord 102 = .ok (.iaload, 1) ∧ decode cX12_writeWord 103 = .ok (.aload_n 0, 1) ∧ decode cX12_writeWord 104 = .ok (.getfield 287, 3) ∧ decode cX12_writeWord 107 = .ok (.ifCond .ne 7, 3) ∧ decode cX12_writeWord 110 = .ok (.iconst 1, 1) ∧ decode cX12_writeWord 111 = .ok (.goto 4, 3) ∧ decode cX12_writeWord 114 = .ok (.iconst 0, 1) := by decide +kernel
theorem dX12_writeWord_97 : decode cX12_writeWord 97 = .ok (.getfield 140, 3) := gd_X12_writeWord_97.1
theorem dX12_writeWord_100 : decode cX12_writeWord 100 = .ok (.iconst 3, 1) := gd_X12_writeWord_97.2.1
theorem dX12_writeWord_101 : decode cX12_writeWord 101 = .ok (.dup2, 1) := gd_X12_writeWord_97.2.2.1
theorem dX12_writeWord_102 : decode cX12_writeWord 102 = .ok (.iaload, 1) := gd_X12_writeWord_97.2.2.2.1
theorem dX12_writeWord_103 : decode cX12_writeWord 103 = .ok (.aload_n 0, 1) := gd_X12_writeWord_97.2.2.2.2.1
theorem dX12_writeWord_104 : decode cX12_writeWord 104 = .ok (.getfield 287, 3) := gd_X12_writeWord_97.2.2.2.2.2.1
theorem dX12_writeWord_107 : decode cX12_writeWord 107 = .ok (.ifCond .ne 7, 3) := gd_X12_writeWord_97.2.2.2.2.2.2.1
theorem dX12_writeWord_110 : decode cX12_writeWord 110 = .ok (.iconst 1, 1) := gd_X12_writeWord_97.2.2.2.2.2.2.2.1
theorem dX12_writeWord_111 : decode cX12_writeWord 111 = .ok (.goto 4, 3) := gd_X12_writeWord_97.2.2.2.2.2.2.2.2.1
theorem dX12_writeWord_114 : decode cX12_writeWord 114 = .ok (.iconst 0, 1) := gd_X12_writeWord_97.2.2.2.2.2.2.2.2.2
theorem gd_X12_writeWord_115 : decode cX12_writeWord 115 = .ok (.iadd, 1) ∧ decode cX12_writeWord 116 = .ok (.iastore, 1) ∧ decode cX12_writeWord 117 = .ok (.aload_n 0, 1) ∧ decode cX12_writeWord 118 = .ok (.getfield 287, 3) ∧ decode cX12_writeWord 121 = .ok (.ifCond .ne 16, 3) ∧ decode cX12_writeWord 124 = .ok (.aload_n 0, 1) ∧ decode cX12_writeWord 125 = .ok (.aload_n 0, 1) ∧ decode cX12_writeWord 126 = .ok (.getfield 7, 3) ∧ decode cX12_writeWord 129 = .ok (.iload_n 1, 1) ∧ decode cX12_writeWord 130 = .ok (.iload_n 2, 1) := by decide +kernel
theorem dX12_writeWord_115 : decode cX12_writeWord 115 = .ok (.iadd, 1) := gd_X12_writeWord_115.1
theorem dX12_writeWord_116 : decode cX12_writeWord 116 = .ok (.iastore, 1) := gd_X12_writeWord_115.2.1
theorem dX12_writeWord_117 : decode cX12_writeWord 117 = .ok (.aload_n 0, 1) := gd_X12_writeWord_115.2.2.1
theorem dX12_writeWord_118 : decode cX12_writeWord 118 = .ok (.getfield 287, 3) := gd_X12_writeWord_115.2.2.2.1
theorem dX12_writeWord_121 : decode cX12_writeWord 121 = .ok (.ifCond .ne 16, 3) := gd_X12_writeWord_115.2.2.2.2.1
theorem dX12_writeWord_124 : decode cX12_writeWord 124 = .ok (.aload_n 0, 1) := gd_X12_writeWord_115.2.2.2.2.2.1
theorem dX12_writeWord_125 : decode cX12_writeWord 125 = .ok (.aload_n 0, 1) := gd_X12_writeWord_115.2.2.2.2.2.2.1
theorem dX12_writeWord_126 : decode cX12_writeWord 126 = .ok (.getfield 7, 3) := gd_X12_writeWord_115.2.2.2.2.2.2.2.1
theorem dX12_writeWord_129 : decode cX12_writeWord 129 = .ok (.iload_n 1, 1) := gd_X12_writeWord_115.2.2.2.2.2.2.2.2.1
theorem dX12_writeWord_130 : decode cX12_writeWord 130 = .ok (.iload_n 2, 1) := gd_X12_writeWord_115.2.2.2.2.2.2.2.2.2
theorem gd_X12_writeWord_131 : decode cX12_writeWord 131 = .ok (.iload_n 1, 1) ∧ decode cX12_writeWord 132 = .ok (.isub, 1) ∧ decode cX12_writeWord 133 = .ok (.invokevirtual 344, 3) ∧ decode cX12_writeWord 136 = .ok (.ireturn, 1) ∧ decode cX12_writeWord 137 = .ok (.aload_n 0, 1) ∧ decode cX12_writeWord 138 = .ok (.getfield 140, 3) ∧ decode cX12_writeWord 141 = .ok (.iconst 1, 1) ∧ decode cX12_writeWord 142 = .ok (.dup2, 1) ∧ decode cX12_writeWord 143 = .ok (.iaload, 1) ∧ decode cX12_writeWord 144 = .ok (.aload_n 0, 1) := by decide +kernel
theorem dX12_writeWord_131 : decode cX12_writeWord 131 = .ok (.iload_n 1, 1) := gd_X12_writeWord_131.1
theorem dX12_writeWord_132 : decode cX12_writeWord 132 = .ok (.isub, 1) := gd_X12_writeWord_131.2.1
theorem dX12_writeWord_133 : decode cX12_writeWord 133 = .ok (.invokevirtual 344, 3) := gd_X12_writeWord_131.2.2.1
theorem dX12_writeWord_136 : decode cX12_writeWord 136 = .ok (.ireturn, 1) := gd_X12_writeWord_131.2.2.2.1
theorem dX12_writeWord_137 : decode cX12_writeWord 137 = .ok (.aload_n 0, 1) := gd_X12_writeWord_131.2.2.2.2.1
theorem dX12_writeWord_138 : decode cX12_writeWord 138 = .ok (.getfield 140, 3) := gd_X12_writeWord_131.2.2.2.2.2.1
theorem dX12_writeWord_141 : decode cX12_writeWord 141 = .ok (.iconst 1, 1) := gd_X12_writeWord_131.2.2.2.2.2.2.1
theorem dX12_writeWord_142 : decode cX12_writeWord 142 = .ok (.dup2, 1) := gd_X12_writeWord_131.2.2.2.2.2.2.2.1
theorem dX12_writeWord_143 : decode cX12_writeWord 143 = .ok (.iaload, 1) := gd_X12_writeWord_131.2.2.2.2.2.2.2.2.1
theorem dX12_writeWord_144 : decode cX12_writeWord 144 = .ok (.aload_n 0, 1) := gd_X12_writeWord_131.2.2.2.2.2.2.2.2.2
theorem gd_X12_writeWord_145 : decode cX12_writeWord 145 = .ok (.getfield 82, 3) ∧ decode cX12_writeWord 148 = .ok (.iconst 0, 1) ∧ decode cX12_writeWord 149 = .ok (.aload_n 0, 1) ∧ decode cX12_writeWord 150 = .ok (.getfield 85, 3) ∧ decode cX12_writeWord 153 = .ok (.iconst 0, 1) ∧ decode cX12_writeWord 154 = .ok (.iaload, 1) ∧ decode cX12_writeWord 155 = .ok (.aload_n 0, 1) ∧ decode cX12_writeWord 156 = .ok (.getfield 7, 3) ∧ decode cX12_writeWord 159 = .ok (.iload_n 1, 1) ∧ decode cX12_writeWord 160 = .ok (.iload_n 2, 1) := by decide +kernel
theorem dX12_writeWord_145 : decode cX12_writeWord 145 = .ok (.getfield 82, 3) := gd_X12_writeWord_145.1
theorem dX12_writeWord_148 : decode cX12_writeWord 148 = .ok (.iconst 0, 1) := gd_X12_writeWord_145.2.1
theorem dX12_writeWord_149 : decode cX12_writeWord 149 = .ok (.aload_n 0, 1) := gd_X12_writeWord_145.2.2.1
theorem dX12_writeWord_150 : decode cX12_writeWord 150 = .ok (.getfield 85, 3) := gd_X12_writeWord_145.2.2.2.1
theorem dX12_writeWord_153 : decode cX12_writeWord 153 = .ok (.iconst 0, 1) := gd_X12_writeWord_145.2.2.2.2.1
theorem dX12_writeWord_154 : decode cX12_writeWord 154 = .ok (.iaload, 1) := gd_X12_writeWord_145.2.2.2.2.2.1
theorem dX12_writeWord_155 : decode cX12_writeWord 155 = .ok (.aload_n 0, 1) := gd_X12_writeWord_145.2.2.2.2.2.2.1
theorem dX12_writeWord_156 : decode cX12_writeWord 156 = .ok (.getfield 7, 3) := gd_X12_writeWord_145.2.2.2.2.2.2.2.1
theorem dX12_writeWord_159 : decode cX12_writeWord 159 = .ok (.iload_n 1, 1) := gd_X12_writeWord_145.2.2.2.2.2.2.2.2.1
theorem dX12_writeWord_160 : decode cX12_writeWord 160 = .ok (.iload_n 2, 1) := gd_X12_writeWord_145.2.2.2.2.2.2.2.2.2
theorem gd_X12_writeWord_161 : decode cX12_writeWord 161 = .ok (.iload_n 1, 1) ∧ decode cX12_writeWord 162 = .ok (.isub, 1) ∧ decode cX12_writeWord 163 = .ok (.invokestatic 273, 3) ∧ decode cX12_writeWord 166 = .ok (.ifCond .eq 7, 3) ∧ decode cX12_writeWord 169 = .ok (.iconst 0, 1) ∧ decode cX12_writeWord 170 = .ok (.goto 4, 3) ∧ decode cX12_writeWord 173 = .ok (.iconst 1, 1) ∧ decode cX12_writeWord 174 = .ok (.iadd, 1) ∧ decode cX12_writeWord 175 = .ok (.iastore, 1) ∧ decode cX12_writeWord 176 = .ok (.aload_n 0, 1) := by decide +kernel
theorem dX12_writeWord_161 : decode cX12_writeWord 161 = .ok (.iload_n 1, 1) := gd_X12_writeWord_161.1
theorem dX12_writeWord_162 : decode cX12_writeWord 162 = .ok (.isub, 1) := gd_X12_writeWord_161.2.1
theorem dX12_writeWord_163 : decode cX12_writeWord 163 = .ok (.invokestatic 273, 3) := gd_X12_writeWord_161.2.2.1
theorem dX12_writeWord_166 : decode cX12_writeWord 166 = .ok (.ifCond .eq 7, 3) := gd_X12_writeWord_161.2.2.2.1
theorem dX12_writeWord_169 : decode cX12_writeWord 169 = .ok (.iconst 0, 1) := gd_X12_writeWord_161.2.2.2.2.1
theorem dX12_writeWord_170 : decode cX12_writeWord 170 = .ok (.goto 4, 3) := gd_X12_writeWord_161.2.2.2.2.2.1
theorem dX12_writeWord_173 : decode cX12_writeWord 173 = .ok (.iconst 1, 1) := gd_X12_writeWord_161.2.2.2.2.2.2.1
theorem dX12_writeWord_174 : decode cX12_writeWord 174 = .ok (.iadd, 1) := gd_X12_writeWord_161.2.2.2.2.2.2.2.1
theorem dX12_writeWord_175 : decode cX12_writeWord 175 = .ok (.iastore, 1) := gd_X12_writeWord_161.2.2.2.2.2.2.2.2.1
theorem dX12_writeWord_176 : decode cX12_writeWord 176 = .ok (.aload_n 0, 1) := gd_X12_writeWord_161.2.2.2.2.2.2.2.2.2
theorem gd_X12_writeWord_177 : decode cX12_writeWord 177 = .ok (.aload_n 0, 1) ∧ decode cX12_writeWord 178 = .ok (.getfield 82, 3) ∧ decode cX12_writeWord 181 = .ok (.iconst 0, 1) ∧ decode cX12_writeWord 182 = .ok (.aload_n 0, 1) ∧ decode cX12_writeWord 183 = .ok (.getfield 85, 3) ∧ decode cX12_writeWord 186 = .ok (.iconst 0, 1) ∧ decode cX12_writeWord 187 = .ok (.iaload, 1) ∧ decode cX12_writeWord 188 = .ok (.invokevirtual 344, 3) ∧ decode cX12_writeWord 191 = .ok (.ireturn, 1) ∧ decode cX12_write 42 = .ok (.iconst (-1), 1) := by decide +kernel
theorem dX12_writeWord_177 : decode cX12_writeWord 177 = .ok (.aload_n 0, 1) := gd_X12_writeWord_177.1
theorem dX12_writeWord_178 : decode cX12_writeWord 178 = .ok (.getfield 82, 3) := gd_X12_writeWord_177.2.1
theorem dX12_writeWord_181 : decode cX12_writeWord 181 = .ok (.iconst 0, 1) := gd_X12_writeWord_177.2.2.1
theorem dX12_writeWord_182 : decode cX12_writeWord 182 = .ok (.aload_n 0, 1) := gd_X12_writeWord_177.2.2.2.1
theorem dX12_writeWord_183 : decode cX12_writeWord 183 = .ok (.getfield 85, 3) := gd_X12_writeWord_177.2.2.2.2.1
theorem dX12_writeWord_186 : decode cX12_writeWord 186 = .ok (.iconst 0, 1) := gd_X12_writeWord_177.2.2.2.2.2.1
theorem dX12_writeWord_187 : decode cX12_writeWord 187 = .ok (.iaload, 1) := gd_X12_writeWord_177.2.2.2.2.2.2.1
theorem dX12_writeWord_188 : decode cX12_writeWord 188 = .ok (.invokevirtual 344, 3) := gd_X12_writeWord_177.2.2.2.2.2.2.2.1
theorem dX12_writeWord_191 : decode cX12_writeWord 191 = .ok (.ireturn, 1) := gd_X12_writeWord_177.2.2.2.2.2.2.2.2.1
theorem dX12_write_42 : decode cX12_write 42 = .ok (.iconst (-1), 1) := gd_X12_writeWord_177.2.2.2.2.2.2.2.2.2
theorem gd_X12_write_43 : decode cX12_write 43 = .ok (.ireturn, 1) ∧ decode cX12_write 81 = .ok (.iload 4, 2) ∧ decode cX12_write 83 = .ok (.iconst 1, 1) ∧ decode cX12_write 84 = .ok (.iadd, 1) ∧ decode cX12_write 85 = .ok (.istore 5, 2) ∧ decode cX12_write 87 = .ok (.aload_n 0, 1) ∧ decode cX12_write 88 = .ok (.getfield 7, 3) ∧ decode cX12_write 91 = .ok (.iload 4, 2) ∧ decode cX12_write 93 = .ok (.baload, 1) ∧ decode cX12_write 94 = .ok (.bipush 34, 2) := by decide +kernel
theorem dX12_write_43 : decode cX12_write 43 = .ok (.ireturn, 1) := gd_X12_write_43.1
theorem dX12_write_81 : decode cX12_write 81 = .ok (.iload 4, 2) := gd_X12_write_43.2.1
theorem dX12_write_83 : decode cX12_write 83 = .ok (.iconst 1, 1) := gd_X12_write_43.2.2.1
theorem dX12_write_84 : decode cX12_write 84 = .ok (.iadd, 1) := gd_X12_write_43.2.2.2.1
theorem dX12_write_85 : decode cX12_write 85 = .ok (.istore 5, 2) := gd_X12_write_43.2.2.2.2.1
theorem dX12_write_87 : decode cX12_write 87 = .ok (.aload_n 0, 1) := gd_X12_write_43.2.2.2.2.2.1
theorem dX12_write_88 : decode cX12_write 88 = .ok (.getfield 7, 3) := gd_X12_write_43.2.2.2.2.2.2.1
theorem dX12_write_91 : decode cX12_write 91 = .ok (.iload 4, 2) := gd_X12_write_43.2.2.2.2.2.2.2.1
theorem dX12_write_93 : decode cX12_write 93 = .ok (.baload, 1) := gd_X12_write_43.2.2.2.2.2.2.2.2.1
theorem dX12_write_94 : decode cX12_write 94 = .ok (.bipush 34, 2) := gd_X12_write_43.2.2.2.2.2.2.2.2.2
theorem gd_X12_write_96 : decode cX12_write 96 = .ok (.if_icmp .ne 32, 3) ∧ decode cX12_write 99 = .ok (.aload_n 0, 1) ∧ decode cX12_write 100 = .ok (.iload 4, 2) ∧ decode cX12_write 102 = .ok (.iload_n 3, 1) ∧ decode cX12_write 103 = .ok (.invokevirtual 351, 3) ∧ decode cX12_write 106 = .ok (.istore 5, 2) ∧ decode cX12_write 108 = .ok (.aload_n 0, 1) ∧ decode cX12_write 109 = .ok (.aload_n 0, 1) ∧ decode cX12_write 110 = .ok (.getfield 7, 3) ∧ decode cX12_write 113 = .ok (.iload 4, 2) := by decide +kernel
theorem dX12_write_96 : decode cX12_write 96 = .ok (.if_icmp .ne 32, 3) := gd_X12_write_96.1
theorem dX12_write_99 : decode cX12_write 99 = .ok (.aload_n 0, 1) := gd_X12_write_96.2.1
theorem dX12_write_100 : decode cX12_write 100 = .ok (.iload 4, 2) := gd_X12_write_96.2.2.1
theorem dX12_write_102 : decode cX12_write 102 = .ok (.iload_n 3, 1) := gd_X12_write_96.2.2.2.1
theorem dX12_write_103 : decode cX12_write 103 = .ok (.invokevirtual 351, 3) := gd_X12_write_96.2.2.2.2.1
theorem dX12_write_106 : decode cX12_write 106 = .ok (.istore 5, 2) := gd_X12_write_96.2.2.2.2.2.1
theorem dX12_write_108 : decode cX12_write 108 = .ok (.aload_n 0, 1) := gd_X12_write_96.2.2.2.2.2.2.1
theorem dX12_write_109 : decode cX12_write 109 = .ok (.aload_n 0, 1) := gd_X12_write_96.2.2.2.2.2.2.2.1
theorem dX12_write_110 : decode cX12_write 110 = .ok (.getfield 7, 3) := gd_X12_write_96.2.2.2.2.2.2.2.2.1
theorem dX12_write_113 : decode cX12_write 113 = .ok (.iload 4, 2) := gd_X12_write_96.2.2.2.2.2.2.2.2.2
theorem gd_X12_write_115 : decode cX12_write 115 = .ok (.iload 5, 2) ∧ decode cX12_write 117 = .ok (.iload 4, 2) ∧ decode cX12_write 119 = .ok (.isub, 1) ∧ decode cX12_write 120 = .ok (.invokevirtual 344, 3) ∧ decode cX12_write 123 = .ok (.istore 6, 2) ∧ decode cX12_write 125 = .ok (.goto 69, 3) ∧ decode cX12_write 128 = .ok (.aload_n 0, 1) ∧ decode cX12_write 129 = .ok (.getfield 7, 3) ∧ decode cX12_write 132 = .ok (.iload 4, 2) ∧ decode cX12_write 134 = .ok (.baload, 1) := by decide +kernel
theorem dX12_write_115 : decode cX12_write 115 = .ok (.iload 5, 2) := gd_X12_write_115.1
theorem dX12_write_117 : decode cX12_write 117 = .ok (.iload 4, 2) := gd_X12_write_115.2.1
theorem dX12_write_119 : decode cX12_write 119 = .ok (.isub, 1) := gd_X12_write_115.2.2.1
theorem dX12_write_120 : decode cX12_write 120 = .ok (.invokevirtual 344, 3) := gd_X12_write_115.2.2.2.1
theorem dX12_write_123 : decode cX12_write 123 = .ok (.istore 6, 2) := gd_X12_write_115.2.2.2.2.1
theorem dX12_write_125 : decode cX12_write 125 = .ok (.goto 69, 3) := gd_X12_write_115.2.2.2.2.2.1
theorem dX12_write_128 : decode cX12_write 128 = .ok (.aload_n 0, 1) := gd_X12_write_115.2.2.2.2.2.2.1
theorem dX12_write_129 : decode cX12_write 129 = .ok (.getfield 7, 3) := gd_X12_write_115.2.2.2.2.2.2.2.1
theorem dX12_write_132 : decode cX12_write 132 = .ok (.iload 4, 2) := gd_X12_write_115.2.2.2.2.2.2.2.2.1
theorem dX12_write_134 : decode cX12_write 134 = .ok (.baload, 1) := gd_X12_write_115.2.2.2.2.2.2.2.2.2
theorem gd_X12_write_135 : decode cX12_write 135 = .ok (.invokestatic 354, 3) ∧ decode cX12_write 138 = .ok (.ifCond .eq 43, 3) ∧ decode cX12_write 141 = .ok (.iload 5, 2) ∧ decode cX12_write 143 = .ok (.iload_n 3, 1) ∧ decode cX12_write 144 = .ok (.if_icmp .ge 22, 3) ∧ decode cX12_write 147 = .ok (.aload_n 0, 1) ∧ decode cX12_write 148 = .ok (.getfield 7, 3) ∧ decode cX12_write 151 = .ok (.iload 5, 2) ∧ decode cX12_write 153 = .ok (.baload, 1) ∧ decode cX12_write 154 = .ok (.invokestatic 354, 3) := by decide +kernel
theorem dX12_write_135 : decode cX12_write 135 = .ok (.invokestatic 354, 3) := gd_X12_write_135.1
theorem dX12_write_138 : decode cX12_write 138 = .ok (.ifCond .eq 43, 3) := gd_X12_write_135.2.1
theorem dX12_write_141 : decode cX12_write 141 = .ok (.iload 5, 2) := gd_X12_write_135.2.2.1
theorem dX12_write_143 : decode cX12_write 143 = .ok (.iload_n 3, 1) := gd_X12_write_135.2.2.2.1
theorem dX12_write_144 : decode cX12_write 144 = .ok (.if_icmp .ge 22, 3) := gd_X12_write_135.2.2.2.2.1
theorem dX12_write_147 : decode cX12_write 147 = .ok (.aload_n 0, 1) := gd_X12_write_135.2.2.2.2.2.1
theorem dX12_write_148 : decode cX12_write 148 = .ok (.getfield 7, 3) := gd_X12_write_135.2.2.2.2.2.2.1
theorem dX12_write_151 : decode cX12_write 151 = .ok (.iload 5, 2) := gd_X12_write_135.2.2.2.2.2.2.2.1
theorem dX12_write_153 : decode cX12_write 153 = .ok (.baload, 1) := gd_X12_write_135.2.2.2.2.2.2.2.2.1
theorem dX12_write_154 : decode cX12_write 154 = .ok (.invokestatic 354, 3) := gd_X12_write_135.2.2.2.2.2.2.2.2.2
theorem gd_X12_write_157 : decode cX12_write 157 = .ok (.ifCond .eq 9, 3) ∧ decode cX12_write 160 = .ok (.iinc 5 1, 3) ∧ decode cX12_write 163 = .ok (.goto (-22), 3) ∧ decode cX12_write 166 = .ok (.aload_n 0, 1) ∧ decode cX12_write 167 = .ok (.iload 4, 2) ∧ decode cX12_write 169 = .ok (.iload 5, 2) ∧ decode cX12_write 171 = .ok (.iload_n 1, 1) ∧ decode cX12_write 172 = .ok (.iload_n 2, 1) ∧ decode cX12_write 173 = .ok (.invokevirtual 357, 3) ∧ decode cX12_write 176 = .ok (.istore 6, 2) := by decide +kernel
theorem dX12_write_157 : decode cX12_write 157 = .ok (.ifCond .eq 9, 3) := gd_X12_write_157.1
theorem dX12_write_160 : decode cX12_write 160 = .ok (.iinc 5 1, 3) := gd_X12_write_157.2.1
theorem dX12_write_163 : decode cX12_write 163 = .ok (.goto (-22), 3) := gd_X12_write_157.2.2.1
theorem dX12_write_166 : decode cX12_write 166 = .ok (.aload_n 0, 1) := gd_X12_write_157.2.2.2.1
theorem dX12_write_167 : decode cX12_write 167 = .ok (.iload 4, 2) := gd_X12_write_157.2.2.2.2.1
theorem dX12_write_169 : decode cX12_write 169 = .ok (.iload 5, 2) := gd_X12_write_157.2.2.2.2.2.1
theorem dX12_write_171 : decode cX12_write 171 = .ok (.iload_n 1, 1) := gd_X12_write_157.2.2.2.2.2.2.1
theorem dX12_write_172 : decode cX12_write 172 = .ok (.iload_n 2, 1) := gd_X12_write_157.2.2.2.2.2.2.2.1
theorem dX12_write_173 : decode cX12_write 173 = .ok (.invokevirtual 357, 3) := gd_X12_write_157.2.2.2.2.2.2.2.2.1
theorem dX12_write_176 : decode cX12_write 176 = .ok (.istore 6, 2) := gd_X12_write_157.2.2.2.2.2.2.2.2.2
theorem gd_X12_write_178 : decode cX12_write 178 = .ok (.goto 16, 3) ∧ decode cX12_write 181 = .ok (.aload_n 0, 1) ∧ decode cX12_write 182 = .ok (.aload_n 0, 1) ∧ decode cX12_write 183 = .ok (.getfield 7, 3) ∧ decode cX12_write 186 = .ok (.iload 4, 2) ∧ decode cX12_write 188 = .ok (.iconst 1, 1) ∧ decode cX12_write 189 = .ok (.invokevirtual 344, 3) ∧ decode cX12_write 192 = .ok (.istore 6, 2) ∧ decode cX12_write 194 = .ok (.iload 6, 2) ∧ decode cX12_write 196 = .ok (.ifCond .ne 5, 3) := by decide +kernel
theorem dX12_write_178 : decode cX12_write 178 = .ok (.goto 16, 3) := gd_X12_write_178.1
theorem dX12_write_181 : decode cX12_write 181 = .ok (.aload_n 0, 1) := gd_X12_write_178.2.1
theorem dX12_write_182 : decode cX12_write 182 = .ok (.aload_n 0, 1) := gd_X12_write_178.2.2.1
theorem dX12_write_183 : decode cX12_write 183 = .ok (.getfield 7, 3) := gd_X12_write_178.2.2.2.1
theorem dX12_write_186 : decode cX12_write 186 = .ok (.iload 4, 2) := gd_X12_write_178.2.2.2.2.1
theorem dX12_write_188 : decode cX12_write 188 = .ok (.iconst 1, 1) := gd_X12_write_178.2.2.2.2.2.1
theorem dX12_write_189 : decode cX12_write 189 = .ok (.invokevirtual 344, 3) := gd_X12_write_178.2.2.2.2.2.2.1
theorem dX12_write_192 : decode cX12_write 192 = .ok (.istore 6, 2) := gd_X12_write_178.2.2.2.2.2.2.2.1
theorem dX12_write_194 : decode cX12_write 194 = .ok (.iload 6, 2) := gd_X12_write_178.2.2.2.2.2.2.2.2.1
theorem dX12_write_196 : decode cX12_write 196 = .ok (.ifCond .ne 5, 3) := gd_X12_write_178.2.2.2.2.2.2.2.2.2
theorem gd_X12_write_199 : decode cX12_write 199 = .ok (.iconst (-1), 1) ∧ decode cX12_write 200 = .ok (.ireturn, 1) ∧ decode cX12_write 201 = .ok (.iload 5, 2) ∧ decode cX12_write 203 = .ok (.istore 4, 2) ∧ decode cX12_write 205 = .ok (.goto (-130), 3) ∧ decode cX12_write 233 = .ok (.aload_n 0, 1) ∧ decode cX12_write 234 = .ok (.getfield 131, 3) ∧ decode cX12_write 237 = .ok (.iload 5, 2) ∧ decode cX12_write 239 = .ok (.aload_n 0, 1) ∧ decode cX12_write 240 = .ok (.getfield 134, 3) := by decide +kernel
theorem dX12_write_199 : decode cX12_write 199 = .ok (.iconst (-1), 1) := gd_X12_write_199.1
theorem dX12_write_200 : decode cX12_write 200 = .ok (.ireturn, 1) := gd_X12_write_199.2.1
theorem dX12_write_201 : decode cX12_write 201 = .ok (.iload 5, 2) := gd_X12_write_199.2.2.1
theorem dX12_write_203 : decode cX12_write 203 = .ok (.istore 4, 2) := gd_X12_write_199.2.2.2.1
theorem dX12_write_205 : decode cX12_write 205 = .ok (.goto (-130), 3) := gd_X12_write_199.2.2.2.2.1
theorem dX12_write_233 : decode cX12_write 233 = .ok (.aload_n 0, 1) := gd_X12_write_199.2.2.2.2.2.1
theorem dX12_write_234 : decode cX12_write 234 = .ok (.getfield 131, 3) := gd_X12_write_199.2.2.2.2.2.2.1
theorem dX12_write_237 : decode cX12_write 237 = .ok (.iload 5, 2) := gd_X12_write_199.2.2.2.2.2.2.2.1
theorem dX12_write_239 : decode cX12_write 239 = .ok (.aload_n 0, 1) := gd_X12_write_199.2.2.2.2.2.2.2.2.1
theorem dX12_write_240 : decode cX12_write 240 = .ok (.getfield 134, 3) := gd_X12_write_199.2.2.2.2.2.2.2.2.2
theorem gd_X12_write_243 : decode cX12_write 243 = .ok (.iload 5, 2) ∧ decode cX12_write 245 = .ok (.baload, 1) ∧ decode cX12_write 246 = .ok (.bastore, 1) ∧ decode cX12_write 247 = .ok (.iinc 5 1, 3) ∧ decode cX12_write 250 = .ok (.goto (-26), 3) ∧ decode cX12_mixed 31 = .ok (.iconst (-1), 1) ∧ decode cX12_mixed 32 = .ok (.ireturn, 1) ∧ decode cX12_mixed 44 = .ok (.iload_n 3, 1) ∧ decode cX12_mixed 45 = .ok (.aload_n 0, 1) ∧ decode cX12_mixed 46 = .ok (.getfield 7, 3) := by decide +kernel
theorem dX12_write_243 : decode cX12_write 243 = .ok (.iload 5, 2) := gd_X12_write_243.1
theorem dX12_write_245 : decode cX12_write 245 = .ok (.baload, 1) := gd_X12_write_243.2.1
theorem dX12_write_246 : decode cX12_write 246 = .ok (.bastore, 1) := gd_X12_write_243.2.2.1
theorem dX12_write_247 : decode cX12_write 247 = .ok (.iinc 5 1, 3) := gd_X12_write_243.2.2.2.1
theorem dX12_write_250 : decode cX12_write 250 = .ok (.goto (-26), 3) := gd_X12_write_243.2.2.2.2.1
theorem dX12_mixed_31 : decode cX12_mixed 31 = .ok (.iconst (-1), 1) := gd_X12_write_243.2.2.2.2.2.1
theorem dX12_mixed_32 : decode cX12_mixed 32 = .ok (.ireturn, 1) := gd_X12_write_243.2.2.2.2.2.2.1
theorem dX12_mixed_44 : decode cX12_mixed 44 = .ok (.iload_n 3, 1) := gd_X12_write_243.2.2.2.2.2.2.2.1
theorem dX12_mixed_45 : decode cX12_mixed 45 = .ok (.aload_n 0, 1) := gd_X12_write_243.2.2.2.2.2.2.2.2.1
theorem dX12_mixed_46 : decode cX12_mixed 46 = .ok (.getfield 7, 3) := gd_X12_write_243.2.2.2.2.2.2.2.2.2
theorem gd_X12_mixed_49 : decode cX12_mixed 49 = .ok (.iload 4, 2) ∧ decode cX12_mixed 51 = .ok (.baload, 1) ∧ decode cX12_mixed 52 = .ok (.bipush 10, 2) ∧ decode cX12_mixed 54 = .ok (.if_icmp .ne 7, 3) ∧ decode cX12_mixed 57 = .ok (.iconst 1, 1) ∧ decode cX12_mixed 58 = .ok (.goto 4, 3) ∧ decode cX12_mixed 61 = .ok (.iconst 0, 1) ∧ decode cX12_mixed 62 = .ok (.iadd, 1) ∧ decode cX12_mixed 63 = .ok (.istore_n 3, 1) ∧ decode cX12_mixed 64 = .ok (.iinc 4 1, 3) := by decide +kernel
theorem dX12_mixed_49 : decode cX12_mixed 49 = .ok (.iload 4, 2) := gd_X12_mixed_49.1
theorem dX12_mixed_51 : decode cX12_mixed 51 = .ok (.baload, 1) := gd_X12_mixed_49.2.1
theorem dX12_mixed_52 : decode cX12_mixed 52 = .ok (.bipush 10, 2) := gd_X12_mixed_49.2.2.1
theorem dX12_mixed_54 : decode cX12_mixed 54 = .ok (.if_icmp .ne 7, 3) := gd_X12_mixed_49.2.2.2.1
theorem dX12_mixed_57 : decode cX12_mixed 57 = .ok (.iconst 1, 1) := gd_X12_mixed_49.2.2.2.2.1
theorem dX12_mixed_58 : decode cX12_mixed 58 = .ok (.goto 4, 3) := gd_X12_mixed_49.2.2.2.2.2.1
theorem dX12_mixed_61 : decode cX12_mixed 61 = .ok (.iconst 0, 1) := gd_X12_mixed_49.2.2.2.2.2.2.1
theorem dX12_mixed_62 : decode cX12_mixed 62 = .ok (.iadd, 1) := gd_X12_mixed_49.2.2.2.2.2.2.2.1
theorem dX12_mixed_63 : decode cX12_mixed 63 = .ok (.istore_n 3, 1) := gd_X12_mixed_49.2.2.2.2.2.2.2.2.1
theorem dX12_mixed_64 : decode cX12_mixed 64 = .ok (.iinc 4 1, 3) := gd_X12_mixed_49.2.2.2.2.2.2.2.2.2
theorem gd_X12_mixed_67 : decode cX12_mixed 67 = .ok (.goto (-29), 3) ∧ decode cX12_mixed 76 = .ok (.iconst (-1), 1) ∧ decode cX12_mixed 77 = .ok (.ireturn, 1) ∧ decode cX12_mixed 119 = .ok (.iload 5, 2) ∧ decode cX12_mixed 121 = .ok (.iconst 1, 1) ∧ decode cX12_mixed 122 = .ok (.iadd, 1) ∧ decode cX12_mixed 123 = .ok (.istore 6, 2) ∧ decode cX12_mixed 125 = .ok (.aload_n 0, 1) ∧ decode cX12_mixed 126 = .ok (.getfield 7, 3) ∧ decode cX12_mixed 129 = .ok (.iload 5, 2) := by decide +kernel
theorem dX12_mixed_67 : decode cX12_mixed 67 = .ok (.goto (-29), 3) := gd_X12_mixed_67.1
theorem dX12_mixed_76 : decode cX12_mixed 76 = .ok (.iconst (-1), 1) := gd_X12_mixed_67.2.1
theorem dX12_mixed_77 : decode cX12_mixed 77 = .ok (.ireturn, 1) := gd_X12_mixed_67.2.2.1
theorem dX12_mixed_119 : decode cX12_mixed 119 = .ok (.iload 5, 2) := gd_X12_mixed_67.2.2.2.1
theorem dX12_mixed_121 : decode cX12_mixed 121 = .ok (.iconst 1, 1) := gd_X12_mixed_67.2.2.2.2.1
theorem dX12_mixed_122 : decode cX12_mixed 122 = .ok (.iadd, 1) := gd_X12_mixed_67.2.2.2.2.2.1
theorem dX12_mixed_123 : decode cX12_mixed 123 = .ok (.istore 6, 2) := gd_X12_mixed_67.2.2.2.2.2.2.1
theorem dX12_mixed_125 : decode cX12_mixed 125 = .ok (.aload_n 0, 1) := gd_X12_mixed_67.2.2.2.2.2.2.2.1
theorem dX12_mixed_126 : decode cX12_mixed 126 = .ok (.getfield 7, 3) := gd_X12_mixed_67.2.2.2.2.2.2.2.2.1
theorem dX12_mixed_129 : decode cX12_mixed 129 = .ok (.iload 5, 2) := gd_X12_mixed_67.2.2.2.2.2.2.2.2.2
theorem gd_X12_mixed_131 : decode cX12_mixed 131 = .ok (.baload, 1) ∧ decode cX12_mixed 132 = .ok (.bipush 34, 2) ∧ decode cX12_mixed 134 = .ok (.if_icmp .ne 54, 3) ∧ decode cX12_mixed 137 = .ok (.aload_n 0, 1) ∧ decode cX12_mixed 138 = .ok (.iload 5, 2) ∧ decode cX12_mixed 140 = .ok (.iload_n 2, 1) ∧ decode cX12_mixed 141 = .ok (.invokevirtual 351, 3) ∧ decode cX12_mixed 144 = .ok (.istore 6, 2) ∧ decode cX12_mixed 146 = .ok (.iload 5, 2) ∧ decode cX12_mixed 148 = .ok (.istore 7, 2) := by decide +kernel
theorem dX12_mixed_131 : decode cX12_mixed 131 = .ok (.baload, 1) := gd_X12_mixed_131.1
theorem dX12_mixed_132 : decode cX12_mixed 132 = .ok (.bipush 34, 2) := gd_X12_mixed_131.2.1
theorem dX12_mixed_134 : decode cX12_mixed 134 = .ok (.if_icmp .ne 54, 3) := gd_X12_mixed_131.2.2.1
theorem dX12_mixed_137 : decode cX12_mixed 137 = .ok (.aload_n 0, 1) := gd_X12_mixed_131.2.2.2.1
theorem dX12_mixed_138 : decode cX12_mixed 138 = .ok (.iload 5, 2) := gd_X12_mixed_131.2.2.2.2.1
theorem dX12_mixed_140 : decode cX12_mixed 140 = .ok (.iload_n 2, 1) := gd_X12_mixed_131.2.2.2.2.2.1
theorem dX12_mixed_141 : decode cX12_mixed 141 = .ok (.invokevirtual 351, 3) := gd_X12_mixed_131.2.2.2.2.2.2.1
theorem dX12_mixed_144 : decode cX12_mixed 144 = .ok (.istore 6, 2) := gd_X12_mixed_131.2.2.2.2.2.2.2.1
theorem dX12_mixed_146 : decode cX12_mixed 146 = .ok (.iload 5, 2) := gd_X12_mixed_131.2.2.2.2.2.2.2.2.1
theorem dX12_mixed_148 : decode cX12_mixed 148 = .ok (.istore 7, 2) := gd_X12_mixed_131.2.2.2.2.2.2.2.2.2
theorem gd_X12_mixed_150 : decode cX12_mixed 150 = .ok (.iload 7, 2) ∧ decode cX12_mixed 152 = .ok (.iload 6, 2) ∧ decode cX12_mixed 154 = .ok (.if_icmp .ge 31, 3) ∧ decode cX12_mixed 157 = .ok (.iload 4, 2) ∧ decode cX12_mixed 159 = .ok (.aload_n 0, 1) ∧ decode cX12_mixed 160 = .ok (.getfield 7, 3) ∧ decode cX12_mixed 163 = .ok (.iload 7, 2) ∧ decode cX12_mixed 165 = .ok (.baload, 1) ∧ decode cX12_mixed 166 = .ok (.bipush 10, 2) ∧ decode cX12_mixed 168 = .ok (.if_icmp .ne 7, 3) := by decide +kernel
theorem dX12_mixed_150 : decode cX12_mixed 150 = .ok (.iload 7, 2) := gd_X12_mixed_150.1
theorem dX12_mixed_152 : decode cX12_mixed 152 = .ok (.iload 6, 2) := gd_X12_mixed_150.2.1
theorem dX12_mixed_154 : decode cX12_mixed 154 = .ok (.if_icmp .ge 31, 3) := gd_X12_mixed_150.2.2.1
theorem dX12_mixed_157 : decode cX12_mixed 157 = .ok (.iload 4, 2) := gd_X12_mixed_150.2.2.2.1
theorem dX12_mixed_159 : decode cX12_mixed 159 = .ok (.aload_n 0, 1) := gd_X12_mixed_150.2.2.2.2.1
theorem dX12_mixed_160 : decode cX12_mixed 160 = .ok (.getfield 7, 3) := gd_X12_mixed_150.2.2.2.2.2.1
theorem dX12_mixed_163 : decode cX12_mixed 163 = .ok (.iload 7, 2) := gd_X12_mixed_150.2.2.2.2.2.2.1
theorem dX12_mixed_165 : decode cX12_mixed 165 = .ok (.baload, 1) := gd_X12_mixed_150.2.2.2.2.2.2.2.1
theorem dX12_mixed_166 : decode cX12_mixed 166 = .ok (.bipush 10, 2) := gd_X12_mixed_150.2.2.2.2.2.2.2.2.1
theorem dX12_mixed_168 : decode cX12_mixed 168 = .ok (.if_icmp .ne 7, 3) := gd_X12_mixed_150.2.2.2.2.2.2.2.2.2
theorem gd_X12_mixed_171 : decode cX12_mixed 171 = .ok (.iconst 1, 1) ∧ decode cX12_mixed 172 = .ok (.goto 4, 3) ∧ decode cX12_mixed 175 = .ok (.iconst 0, 1) ∧ decode cX12_mixed 176 = .ok (.iadd, 1) ∧ decode cX12_mixed 177 = .ok (.istore 4, 2) ∧ decode cX12_mixed 179 = .ok (.iinc 7 1, 3) ∧ decode cX12_mixed 182 = .ok (.goto (-32), 3) ∧ decode cX12_mixed 185 = .ok (.goto 122, 3) ∧ decode cX12_mixed 188 = .ok (.aload_n 0, 1) ∧ decode cX12_mixed 189 = .ok (.getfield 7, 3) := by decide +kernel
theorem dX12_mixed_171 : decode cX12_mixed 171 = .ok (.iconst 1, 1) := gd_X12_mixed_171.1
theorem dX12_mixed_172 : decode cX12_mixed 172 = .ok (.goto 4, 3) := gd_X12_mixed_171.2.1
theorem dX12_mixed_175 : decode cX12_mixed 175 = .ok (.iconst 0, 1) := gd_X12_mixed_171.2.2.1
theorem dX12_mixed_176 : decode cX12_mixed 176 = .ok (.iadd, 1) := gd_X12_mixed_171.2.2.2.1
theorem dX12_mixed_177 : decode cX12_mixed 177 = .ok (.istore 4, 2) := gd_X12_mixed_171.2.2.2.2.1
theorem dX12_mixed_179 : decode cX12_mixed 179 = .ok (.iinc 7 1, 3) := gd_X12_mixed_171.2.2.2.2.2.1
theorem dX12_mixed_182 : decode cX12_mixed 182 = .ok (.goto (-32), 3) := gd_X12_mixed_171.2.2.2.2.2.2.1
theorem dX12_mixed_185 : decode cX12_mixed 185 = .ok (.goto 122, 3) := gd_X12_mixed_171.2.2.2.2.2.2.2.1
theorem dX12_mixed_188 : decode cX12_mixed 188 = .ok (.aload_n 0, 1) := gd_X12_mixed_171.2.2.2.2.2.2.2.2.1
theorem dX12_mixed_189 : decode cX12_mixed 189 = .ok (.getfield 7, 3) := gd_X12_mixed_171.2.2.2.2.2.2.2.2.2
theorem gd_X12_mixed_192 : decode cX12_mixed 192 = .ok (.iload 5, 2) ∧ decode cX12_mixed 194 = .ok (.baload, 1) ∧ decode cX12_mixed 195 = .ok (.invokestatic 354, 3) ∧ decode cX12_mixed 198 = .ok (.ifCond .eq 94, 3) ∧ decode cX12_mixed 201 = .ok (.iload 6, 2) ∧ decode cX12_mixed 203 = .ok (.iload_n 2, 1) ∧ decode cX12_mixed 204 = .ok (.if_icmp .ge 22, 3) ∧ decode cX12_mixed 207 = .ok (.aload_n 0, 1) ∧ decode cX12_mixed 208 = .ok (.getfield 7, 3) ∧ decode cX12_mixed 211 = .ok (.iload 6, 2) := by decide +kernel
theorem dX12_mixed_192 : decode cX12_mixed 192 = .ok (.iload 5, 2) := gd_X12_mixed_192.1
theorem dX12_mixed_194 : decode cX12_mixed 194 = .ok (.baload, 1) := gd_X12_mixed_192.2.1
theorem dX12_mixed_195 : decode cX12_mixed 195 = .ok (.invokestatic 354, 3) := gd_X12_mixed_192.2.2.1
theorem dX12_mixed_198 : decode cX12_mixed 198 = .ok (.ifCond .eq 94, 3) := gd_X12_mixed_192.2.2.2.1
theorem dX12_mixed_201 : decode cX12_mixed 201 = .ok (.iload 6, 2) := gd_X12_mixed_192.2.2.2.2.1
theorem dX12_mixed_203 : decode cX12_mixed 203 = .ok (.iload_n 2, 1) := gd_X12_mixed_192.2.2.2.2.2.1
theorem dX12_mixed_204 : decode cX12_mixed 204 = .ok (.if_icmp .ge 22, 3) := gd_X12_mixed_192.2.2.2.2.2.2.1
theorem dX12_mixed_207 : decode cX12_mixed 207 = .ok (.aload_n 0, 1) := gd_X12_mixed_192.2.2.2.2.2.2.2.1
theorem dX12_mixed_208 : decode cX12_mixed 208 = .ok (.getfield 7, 3) := gd_X12_mixed_192.2.2.2.2.2.2.2.2.1
theorem dX12_mixed_211 : decode cX12_mixed 211 = .ok (.iload 6, 2) := gd_X12_mixed_192.2.2.2.2.2.2.2.2.2
theorem gd_X12_mixed_213 : decode cX12_mixed 213 = .ok (.baload, 1) ∧ decode cX12_mixed 214 = .ok (.invokestatic 354, 3) ∧ decode cX12_mixed 217 = .ok (.ifCond .eq 9, 3) ∧ decode cX12_mixed 220 = .ok (.iinc 6 1, 3) ∧ decode cX12_mixed 223 = .ok (.goto (-22), 3) ∧ decode cX12_mixed 226 = .ok (.iconst 0, 1) ∧ decode cX12_mixed 227 = .ok (.istore 7, 2) ∧ decode cX12_mixed 229 = .ok (.iload 7, 2) ∧ decode cX12_mixed 231 = .ok (.aload_n 0, 1) ∧ decode cX12_mixed 232 = .ok (.getfield 222, 3) := by decide +kernel
theorem dX12_mixed_213 : decode cX12_mixed 213 = .ok (.baload, 1) := gd_X12_mixed_213.1
theorem dX12_mixed_214 : decode cX12_mixed 214 = .ok (.invokestatic 354, 3) := gd_X12_mixed_213.2.1
theorem dX12_mixed_217 : decode cX12_mixed 217 = .ok (.ifCond .eq 9, 3) := gd_X12_mixed_213.2.2.1
theorem dX12_mixed_220 : decode cX12_mixed 220 = .ok (.iinc 6 1, 3) := gd_X12_mixed_213.2.2.2.1
theorem dX12_mixed_223 : decode cX12_mixed 223 = .ok (.goto (-22), 3) := gd_X12_mixed_213.2.2.2.2.1
theorem dX12_mixed_226 : decode cX12_mixed 226 = .ok (.iconst 0, 1) := gd_X12_mixed_213.2.2.2.2.2.1
theorem dX12_mixed_227 : decode cX12_mixed 227 = .ok (.istore 7, 2) := gd_X12_mixed_213.2.2.2.2.2.2.1
theorem dX12_mixed_229 : decode cX12_mixed 229 = .ok (.iload 7, 2) := gd_X12_mixed_213.2.2.2.2.2.2.2.1
theorem dX12_mixed_231 : decode cX12_mixed 231 = .ok (.aload_n 0, 1) := gd_X12_mixed_213.2.2.2.2.2.2.2.2.1
theorem dX12_mixed_232 : decode cX12_mixed 232 = .ok (.getfield 222, 3) := gd_X12_mixed_213.2.2.2.2.2.2.2.2.2
theorem gd_X12_mixed_235 : decode cX12_mixed 235 = .ok (.if_icmp .gt 54, 3) ∧ decode cX12_mixed 238 = .ok (.aload_n 0, 1) ∧ decode cX12_mixed 239 = .ok (.getfield 143, 3) ∧ decode cX12_mixed 242 = .ok (.bipush 7, 2) ∧ decode cX12_mixed 244 = .ok (.iload 4, 2) ∧ decode cX12_mixed 246 = .ok (.imul, 1) ∧ decode cX12_mixed 247 = .ok (.iload 7, 2) ∧ decode cX12_mixed 249 = .ok (.iadd, 1) ∧ decode cX12_mixed 250 = .ok (.dup2, 1) ∧ decode cX12_mixed 251 = .ok (.iaload, 1) := by decide +kernel
theorem dX12_mixed_235 : decode cX12_mixed 235 = .ok (.if_icmp .gt 54, 3) := gd_X12_mixed_235.1
theorem dX12_mixed_238 : decode cX12_mixed 238 = .ok (.aload_n 0, 1) := gd_X12_mixed_235.2.1
theorem dX12_mixed_239 : decode cX12_mixed 239 = .ok (.getfield 143, 3) := gd_X12_mixed_235.2.2.1
theorem dX12_mixed_242 : decode cX12_mixed 242 = .ok (.bipush 7, 2) := gd_X12_mixed_235.2.2.2.1
theorem dX12_mixed_244 : decode cX12_mixed 244 = .ok (.iload 4, 2) := gd_X12_mixed_235.2.2.2.2.1
theorem dX12_mixed_246 : decode cX12_mixed 246 = .ok (.imul, 1) := gd_X12_mixed_235.2.2.2.2.2.1
theorem dX12_mixed_247 : decode cX12_mixed 247 = .ok (.iload 7, 2) := gd_X12_mixed_235.2.2.2.2.2.2.1
theorem dX12_mixed_249 : decode cX12_mixed 249 = .ok (.iadd, 1) := gd_X12_mixed_235.2.2.2.2.2.2.2.1
theorem dX12_mixed_250 : decode cX12_mixed 250 = .ok (.dup2, 1) := gd_X12_mixed_235.2.2.2.2.2.2.2.2.1
theorem dX12_mixed_251 : decode cX12_mixed 251 = .ok (.iaload, 1) := gd_X12_mixed_235.2.2.2.2.2.2.2.2.2
theorem gd_X12_mixed_252 : decode cX12_mixed 252 = .ok (.aload_n 0, 1) ∧ decode cX12_mixed 253 = .ok (.iload 5, 2) ∧ decode cX12_mixed 255 = .ok (.iload 6, 2) ∧ decode cX12_mixed 257 = .ok (.invokevirtual 340, 3) ∧ decode cX12_mixed 260 = .ok (.ifCond .ne 16, 3) ∧ decode cX12_mixed 263 = .ok (.aload_n 0, 1) ∧ decode cX12_mixed 264 = .ok (.iload 7, 2) ∧ decode cX12_mixed 266 = .ok (.iload 5, 2) ∧ decode cX12_mixed 268 = .ok (.iload 6, 2) ∧ decode cX12_mixed 270 = .ok (.invokevirtual 367, 3) := by decide +kernel
theorem dX12_mixed_252 : decode cX12_mixed 252 = .ok (.aload_n 0, 1) := gd_X12_mixed_252.1
theorem dX12_mixed_253 : decode cX12_mixed 253 = .ok (.iload 5, 2) := gd_X12_mixed_252.2.1
theorem dX12_mixed_255 : decode cX12_mixed 255 = .ok (.iload 6, 2) := gd_X12_mixed_252.2.2.1
theorem dX12_mixed_257 : decode cX12_mixed 257 = .ok (.invokevirtual 340, 3) := gd_X12_mixed_252.2.2.2.1
theorem dX12_mixed_260 : decode cX12_mixed 260 = .ok (.ifCond .ne 16, 3) := gd_X12_mixed_252.2.2.2.2.1
theorem dX12_mixed_263 : decode cX12_mixed 263 = .ok (.aload_n 0, 1) := gd_X12_mixed_252.2.2.2.2.2.1
theorem dX12_mixed_264 : decode cX12_mixed 264 = .ok (.iload 7, 2) := gd_X12_mixed_252.2.2.2.2.2.2.1
theorem dX12_mixed_266 : decode cX12_mixed 266 = .ok (.iload 5, 2) := gd_X12_mixed_252.2.2.2.2.2.2.2.1
theorem dX12_mixed_268 : decode cX12_mixed 268 = .ok (.iload 6, 2) := gd_X12_mixed_252.2.2.2.2.2.2.2.2.1
theorem dX12_mixed_270 : decode cX12_mixed 270 = .ok (.invokevirtual 367, 3) := gd_X12_mixed_252.2.2.2.2.2.2.2.2.2
theorem gd_X12_mixed_273 : decode cX12_mixed 273 = .ok (.ifCond .eq 7, 3) ∧ decode cX12_mixed 276 = .ok (.iconst 0, 1) ∧ decode cX12_mixed 277 = .ok (.goto 4, 3) ∧ decode cX12_mixed 280 = .ok (.iconst 1, 1) ∧ decode cX12_mixed 281 = .ok (.iadd, 1) ∧ decode cX12_mixed 282 = .ok (.iastore, 1) ∧ decode cX12_mixed 283 = .ok (.iinc 7 1, 3) ∧ decode cX12_mixed 286 = .ok (.goto (-57), 3) ∧ decode cX12_mixed 289 = .ok (.goto 18, 3) ∧ decode cX12_mixed 292 = .ok (.aload_n 0, 1) := by decide +kernel
theorem dX12_mixed_273 : decode cX12_mixed 273 = .ok (.ifCond .eq 7, 3) := gd_X12_mixed_273.1
theorem dX12_mixed_276 : decode cX12_mixed 276 = .ok (.iconst 0, 1) := gd_X12_mixed_273.2.1
theorem dX12_mixed_277 : decode cX12_mixed 277 = .ok (.goto 4, 3) := gd_X12_mixed_273.2.2.1
theorem dX12_mixed_280 : decode cX12_mixed 280 = .ok (.iconst 1, 1) := gd_X12_mixed_273.2.2.2.1
theorem dX12_mixed_281 : decode cX12_mixed 281 = .ok (.iadd, 1) := gd_X12_mixed_273.2.2.2.2.1
theorem dX12_mixed_282 : decode cX12_mixed 282 = .ok (.iastore, 1) := gd_X12_mixed_273.2.2.2.2.2.1
theorem dX12_mixed_283 : decode cX12_mixed 283 = .ok (.iinc 7 1, 3) := gd_X12_mixed_273.2.2.2.2.2.2.1
theorem dX12_mixed_286 : decode cX12_mixed 286 = .ok (.goto (-57), 3) := gd_X12_mixed_273.2.2.2.2.2.2.2.1
theorem dX12_mixed_289 : decode cX12_mixed 289 = .ok (.goto 18, 3) := gd_X12_mixed_273.2.2.2.2.2.2.2.2.1
theorem dX12_mixed_292 : decode cX12_mixed 292 = .ok (.aload_n 0, 1) := gd_X12_mixed_273.2.2.2.2.2.2.2.2.2
theorem gd_X12_mixed_293 : decode cX12_mixed 293 = .ok (.getfield 7, 3) ∧ decode cX12_mixed 296 = .ok (.iload 5, 2) ∧ decode cX12_mixed 298 = .ok (.baload, 1) ∧ decode cX12_mixed 299 = .ok (.bipush 10, 2) ∧ decode cX12_mixed 301 = .ok (.if_icmp .ne 6, 3) ∧ decode cX12_mixed 304 = .ok (.iinc 4 1, 3) ∧ decode cX12_mixed 307 = .ok (.iload 6, 2) ∧ decode cX12_mixed 309 = .ok (.istore 5, 2) ∧ decode cX12_mixed 311 = .ok (.goto (-198), 3) ∧ decode cX12_mixed 400 = .ok (.aload_n 0, 1) := by decide +kernel
theorem dX12_mixed_293 : decode cX12_mixed 293 = .ok (.getfield 7, 3) := gd_X12_mixed_293.1
theorem dX12_mixed_296 : decode cX12_mixed 296 = .ok (.iload 5, 2) := gd_X12_mixed_293.2.1
theorem dX12_mixed_298 : decode cX12_mixed 298 = .ok (.baload, 1) := gd_X12_mixed_293.2.2.1
theorem dX12_mixed_299 : decode cX12_mixed 299 = .ok (.bipush 10, 2) := gd_X12_mixed_293.2.2.2.1
theorem dX12_mixed_301 : decode cX12_mixed 301 = .ok (.if_icmp .ne 6, 3) := gd_X12_mixed_293.2.2.2.2.1
theorem dX12_mixed_304 : decode cX12_mixed 304 = .ok (.iinc 4 1, 3) := gd_X12_mixed_293.2.2.2.2.2.1
theorem dX12_mixed_307 : decode cX12_mixed 307 = .ok (.iload 6, 2) := gd_X12_mixed_293.2.2.2.2.2.2.1
theorem dX12_mixed_309 : decode cX12_mixed 309 = .ok (.istore 5, 2) := gd_X12_mixed_293.2.2.2.2.2.2.2.1
theorem dX12_mixed_311 : decode cX12_mixed 311 = .ok (.goto (-198), 3) := gd_X12_mixed_293.2.2.2.2.2.2.2.2.1
theorem dX12_mixed_400 : decode cX12_mixed 400 = .ok (.aload_n 0, 1) := gd_X12_mixed_293.2.2.2.2.2.2.2.2.2
theorem gd_X12_mixed_401 : decode cX12_mixed 401 = .ok (.iload 6, 2) ∧ decode cX12_mixed 403 = .ok (.iconst 1, 1) ∧ decode cX12_mixed 404 = .ok (.iadd, 1) ∧ decode cX12_mixed 405 = .ok (.iload 7, 2) ∧ decode cX12_mixed 407 = .ok (.iload_n 1, 1) ∧ decode cX12_mixed 408 = .ok (.invokevirtual 370, 3) ∧ decode cX12_mixed 411 = .ok (.goto 4, 3) ∧ decode cX12_mixed 488 = .ok (.iload 7, 2) ∧ decode cX12_mixed 490 = .ok (.iload 10, 2) ∧ decode cX12_mixed 492 = .ok (.if_icmp .ne 7, 3) := by decide +kernel
theorem dX12_mixed_401 : decode cX12_mixed 401 = .ok (.iload 6, 2) := gd_X12_mixed_401.1
theorem dX12_mixed_403 : decode cX12_mixed 403 = .ok (.iconst 1, 1) := gd_X12_mixed_401.2.1
theorem dX12_mixed_404 : decode cX12_mixed 404 = .ok (.iadd, 1) := gd_X12_mixed_401.2.2.1
theorem dX12_mixed_405 : decode cX12_mixed 405 = .ok (.iload 7, 2) := gd_X12_mixed_401.2.2.2.1
theorem dX12_mixed_407 : decode cX12_mixed 407 = .ok (.iload_n 1, 1) := gd_X12_mixed_401.2.2.2.2.1
theorem dX12_mixed_408 : decode cX12_mixed 408 = .ok (.invokevirtual 370, 3) := gd_X12_mixed_401.2.2.2.2.2.1
theorem dX12_mixed_411 : decode cX12_mixed 411 = .ok (.goto 4, 3) := gd_X12_mixed_401.2.2.2.2.2.2.1
theorem dX12_mixed_488 : decode cX12_mixed 488 = .ok (.iload 7, 2) := gd_X12_mixed_401.2.2.2.2.2.2.2.1
theorem dX12_mixed_490 : decode cX12_mixed 490 = .ok (.iload 10, 2) := gd_X12_mixed_401.2.2.2.2.2.2.2.2.1
theorem dX12_mixed_492 : decode cX12_mixed 492 = .ok (.if_icmp .ne 7, 3) := gd_X12_mixed_401.2.2.2.2.2.2.2.2.2
theorem gd_X12_mixed_499 : decode cX12_mixed 499 = .ok (.iload_n 1, 1) ∧ decode cX12_mixed 506 = .ok (.iinc 10 1, 3) ∧ decode cX12_mixed 509 = .ok (.goto (-40), 3) := by decide +kernel
theorem dX12_mixed_499 : decode cX12_mixed 499 = .ok (.iload_n 1, 1) := gd_X12_mixed_499.1
theorem dX12_mixed_506 : decode cX12_mixed 506 = .ok (.iinc 10 1, 3) := gd_X12_mixed_499.2.1
theorem dX12_mixed_509 : decode cX12_mixed 509 = .ok (.goto (-40), 3) := gd_X12_mixed_499.2.2
set_option maxHeartbeats 4000000 in
set_option maxRecDepth 100000 in
theorem bm_write1_0 {p : Program} {l : Launch} {e : Env} {s : State} {m : MethodId} {args : Array Value} {below : List Frame} {meth : Method} {c : Code} {Q : State → Prop} {A : Nat → Prop} {dC : Nat → ClassId} {dI : Nat → Nat → Nat} {h0 : Nat} {kB kI kZ : ClassId} {q : Nat → Nat} {g : Nat → Int32} {F : Nat → Nat → Int32} {H : Heap} {locs : List Loc} {ls : Array Slot} (p1 : Int32) (p2 : Int32) (r : Int32) (c_g66 : Int32) (c_F61 : (Nat → Int32)) (hr : f_write1 g F (F 0) 2000 p1 p2 = some (r, c_g66, c_F61)) (hx : p.tables.exec = Jvm.exec) (hb : c.code = cX12_write1) (hml : c.maxLocals = 5) (hown : s.vm.findClass RX12 = some m.cls) (hts : ∀ w ∈ vmX12_write1, w.before args s = true) (hA : ∀ q : Nat, s.heap.size ≤ q → A q) (hK : va_K (dC, dI) vwCl (mT kB kI kZ) s) (hP : va_P (dC, dI) vwCl (mW h0 kB kI kZ q g F) H) (hD : va_D A (mW h0 kB kI kZ q g F)) (hS : va_S A s.heap H locs) (hl : lv_has ls 5 [(0, .ref h0), (1, .ref (q 0)), (2, .int p1), (3, .int p2)])
    (K : ∀ (pc : Nat) (ls : Array Slot) (rz : Int32) (c_g66z : Int32) (c_F61z : (Nat → Int32)) (H : Heap) (locs : List Loc), some (rz, c_g66z, c_F61z) = some (r, c_g66, c_F61) → is01 rz → decode cX12_write1 pc = .ok (.ireturn, 1) → va_P (dC, dI) vwCl (mW h0 kB kI kZ q (upd g 66 c_g66z) (upF F 61 c_F61z)) H → va_D A (mW h0 kB kI kZ q (upd g 66 c_g66z) (upF F 61 c_F61z)) → va_S A s.heap H locs → W p l e ({ frames := 2, cells := 0, slots := 0, locals := 60 } : Room) s m args below meth c H locs 0 0 Q (F0 m pc ls [.int rz])) : W p l e ({ frames := 2, cells := 0, slots := 0, locals := 60 } : Room) s m args below meth c H locs 0 0 Q (F0 m 0 ls []) := by
  unfold f_write1 at hr
  refine lv_aload_n hx hb dX12_write1_0 rfl (lv_at hl 0 rfl) ?_
  refine va_get (D := (dC, dI)) (ci := 12) (v := .int (g 66)) (C := RX12) (T := TX12) (N := 71) hx hb hts inX12 hown hK hP 0 rfl rfl 66 (by decide) (hts (.fieldLink RX12 337 "SpellTurnerModel" "drafted" "I") im_208) (fun _ h9 => h9) rfl dX12_write1_1 ?_
  refine lv_iload_n hx hb dX12_write1_4 rfl (lv_at hl 3 rfl) ?_
  refine lv_iadd hx hb dX12_write1_5 ?_
  refine lv_sipush (v := 2500) hx hb dX12_write1_6 (by decide +kernel) ?_
  refine lv_icmp_le (tgt := 14) hx hb dX12_write1_9 (by decide) (fun c9 => ?_) (fun c9 => ?_)
  · replace hr := iteT c9 hr
    refine lv_iconst (v := 0) hx hb dX12_write1_14 (by decide +kernel) ?_
    refine lv_istore (lv' := [(4, .int 0), (0, .ref h0), (1, .ref (q 0)), (2, .int p1), (3, .int p2)]) hx hb dX12_write1_15 hl (by decide) rfl (fun ls hl => ?_)
    have lp17 : ∀ (n17 : Nat) (y17_4 : Int32) (d17_F61 : (Nat → Int32)) (H : Heap) (locs : List Loc) (ls : Array Slot), L_write1_17 g (F 0) 2000 p1 p2 n17 y17_4 d17_F61 = some (r, c_g66, c_F61) → va_P (dC, dI) vwCl (mW h0 kB kI kZ q g (upF F 61 d17_F61)) H → va_D A (mW h0 kB kI kZ q g (upF F 61 d17_F61)) → va_S A s.heap H locs → lv_has ls 5 [(0, .ref h0), (1, .ref (q 0)), (2, .int p1), (3, .int p2), (4, .int y17_4)] → W p l e ({ frames := 2, cells := 0, slots := 0, locals := 60 } : Room) s m args below meth c H locs 0 0 Q (F0 m 17 ls []) := by
      intro n17
      induction n17 with
      | zero => intro y17_4 d17_F61 H locs ls hr; exact nomatch (show none = some (r, c_g66, c_F61) from hr)
      | succ n17 ih17 =>
        intro y17_4 d17_F61 H locs ls hr hP hD hS hl
        replace hr : B_write1_17 g (F 0) 2000 p1 p2 (L_write1_17 g (F 0) 2000 p1 p2 n17) y17_4 d17_F61 = some (r, c_g66, c_F61) := hr
        unfold B_write1_17 at hr
        refine lv_iload hx hb dX12_write1_17 (lv_at hl 4 rfl) ?_
        refine lv_iload_n hx hb dX12_write1_19 rfl (lv_at hl 3 rfl) ?_
        refine lv_icmp_ge (tgt := 47) hx hb dX12_write1_20 (by decide) (fun c20 => ?_) (fun c20 => ?_)
        · replace hr := iteT c20 hr
          refine lv_aload_n hx hb dX12_write1_47 rfl (lv_at hl 0 rfl) ?_
          refine lv_dup hx hb dX12_write1_48 rfl ?_
          refine va_get (D := (dC, dI)) (ci := 12) (v := .int (g 66)) (C := RX12) (T := TX12) (N := 71) hx hb hts inX12 hown hK hP 0 rfl rfl 66 (by decide) (hts (.fieldLink RX12 337 "SpellTurnerModel" "drafted" "I") im_208) (fun _ h9 => h9) rfl dX12_write1_49 ?_
          refine lv_iload_n hx hb dX12_write1_52 rfl (lv_at hl 3 rfl) ?_
          refine lv_iadd hx hb dX12_write1_53 ?_
          refine lv_topi (fun x54 ex54 => ?_)
          replace hr := vlS hr x54 ex54
          clear ex54
          refine va_put (D := (dC, dI)) (ci := 12) (v := .int x54) (ty := .int) (C := RX12) (T := TX12) (N := 71) hx hb hts inX12 tyX12 tyX12_ok nmX12 hown hK hP hD hS 0 rfl rfl 66 (by decide) (hts (.fieldLink RX12 337 "SpellTurnerModel" "drafted" "I") im_208) (fun _ h9 => h9) rfl (by decide +kernel) rfl rfl (Nat.le_of_ble_eq_true rfl) dX12_write1_54 (fun H locs hP hD hS => ?_)
          have hP : va_P (dC, dI) vwCl (mW h0 kB kI kZ q (upd g 66 x54) (upF F 61 d17_F61)) H := by first | exact sP_g66 hP rfl | exact sP_g66 hP upd_same | exact hP
          have hD : va_D A (mW h0 kB kI kZ q (upd g 66 x54) (upF F 61 d17_F61)) := by first | exact sD_g66 hD rfl | exact sD_g66 hD upd_same | exact hD
          refine lv_iconst (v := 1) hx hb dX12_write1_57 (by decide +kernel) ?_
          first | exact K 58 ls _ _ _ H _ hr (by decide) dX12_write1_58 (sP_eq (mW_cg (by repeat (first | with_reducible rfl | with_reducible refine upd_cg ?_ | refine Eq.trans ?_ (upd_id rfl))) (by repeat (first | with_reducible rfl | with_reducible refine upF_cg ?_ | refine Eq.trans ?_ (upF_id rfl)))) hP) (sD_eq (mW_cg (by repeat (first | with_reducible rfl | with_reducible refine upd_cg ?_ | refine Eq.trans ?_ (upd_id rfl))) (by repeat (first | with_reducible rfl | with_reducible refine upF_cg ?_ | refine Eq.trans ?_ (upF_id rfl)))) hD) hS | exact K 58 ls _ _ _ H _ hr (by decide) dX12_write1_58 hP hD hS
        · replace hr := iteF c20 hr
          refine lv_aload_n hx hb dX12_write1_23 rfl (lv_at hl 0 rfl) ?_
          refine va_get (D := (dC, dI)) (ci := 12) (v := .ref (q 61)) (C := RX12) (T := TX12) (N := 71) hx hb hts inX12 hown hK hP 0 rfl rfl 61 (by decide) (hts (.fieldLink RX12 134 "SpellTurnerModel" "draft" "[B") im_209) (fun _ h9 => h9) rfl dX12_write1_24 ?_
          refine lv_aload_n hx hb dX12_write1_27 rfl (lv_at hl 0 rfl) ?_
          refine va_get (D := (dC, dI)) (ci := 12) (v := .int (g 66)) (C := RX12) (T := TX12) (N := 71) hx hb hts inX12 hown hK hP 0 rfl rfl 66 (by decide) (hts (.fieldLink RX12 337 "SpellTurnerModel" "drafted" "I") im_208) (fun _ h9 => h9) rfl dX12_write1_28 ?_
          refine lv_iload hx hb dX12_write1_31 (lv_at hl 4 rfl) ?_
          refine lv_iadd hx hb dX12_write1_33 ?_
          refine lv_aload_n hx hb dX12_write1_34 rfl (lv_at hl 1 rfl) ?_
          refine lv_iload_n hx hb dX12_write1_35 rfl (lv_at hl 2 rfl) ?_
          refine lv_iload hx hb dX12_write1_36 (lv_at hl 4 rfl) ?_
          refine lv_iadd hx hb dX12_write1_38 ?_
          replace hr := iteS hr
          obtain ⟨hi39, hr⟩ := hr
          refine va_bald (f := (F 0)) hx hb hK hP 1 0 rfl rfl (inbV hi39) dX12_write1_39 ?_
          replace hr := iteS hr
          obtain ⟨hi40, hr⟩ := hr
          refine va_bast (f := d17_F61) hx hb hK hP hD hS 40 0 rfl rfl (inbV hi40) dX12_write1_40 (fun H locs hP hD hS => ?_)
          obtain ⟨w40, ew40, hP, hD⟩ : ∃ w40 : Nat → Int32, w40 = (upd d17_F61 (Int32.toNatClampNeg ((g 66) + y17_4)) (vp_nar .byte ((F 0) (Int32.toNatClampNeg (p1 + y17_4))))) ∧ va_P (dC, dI) vwCl (mW h0 kB kI kZ q g (upF F 61 w40)) H ∧ va_D A (mW h0 kB kI kZ q g (upF F 61 w40)) := ⟨(upd d17_F61 (Int32.toNatClampNeg ((g 66) + y17_4)) (vp_nar .byte ((F 0) (Int32.toNatClampNeg (p1 + y17_4))))), rfl, by first | exact sP_F61 hP upF_same | exact sP_F61 hP rfl | exact hP, by first | exact sD_F61 hD upF_same | exact sD_F61 hD rfl | exact hD⟩
          replace hr := vlS hr w40 ew40
          clear ew40
          refine lv_iinc (v := (y17_4 + 1)) (lv' := [(4, .int (y17_4 + 1)), (0, .ref h0), (1, .ref (q 0)), (2, .int p1), (3, .int p2)]) hx hb dX12_write1_41 hl (k := 4) rfl rfl (by decide) rfl (fun ls hl => ?_)
          refine lv_goto (tgt := 17) hx hb dX12_write1_44 (by decide) ?_
          exact ih17 (y17_4 + 1) w40 H _ ls hr hP hD hS (lv_sub hl [1, 2, 3, 4, 0] rfl)
    first | exact lp17 NN 0 (F 61) H _ ls hr (sP_eq (mW_cg (by repeat (first | with_reducible rfl | with_reducible refine upd_cg ?_ | refine Eq.trans ?_ (upd_id rfl))) (by repeat (first | with_reducible rfl | with_reducible refine upF_cg ?_ | refine Eq.trans ?_ (upF_id rfl)))) hP) (sD_eq (mW_cg (by repeat (first | with_reducible rfl | with_reducible refine upd_cg ?_ | refine Eq.trans ?_ (upd_id rfl))) (by repeat (first | with_reducible rfl | with_reducible refine upF_cg ?_ | refine Eq.trans ?_ (upF_id rfl)))) hD) hS (lv_sub hl [1, 2, 3, 4, 0] rfl) | exact lp17 NN 0 (F 61) H _ ls hr hP hD hS (lv_sub hl [1, 2, 3, 4, 0] rfl)
  · replace hr := iteF c9 hr
    refine lv_iconst (v := 0) hx hb dX12_write1_12 (by decide +kernel) ?_
    first | exact K 13 ls _ _ _ H _ hr (by decide) dX12_write1_13 (sP_eq (mW_cg (by repeat (first | with_reducible rfl | with_reducible refine upd_cg ?_ | refine Eq.trans ?_ (upd_id rfl))) (by repeat (first | with_reducible rfl | with_reducible refine upF_cg ?_ | refine Eq.trans ?_ (upF_id rfl)))) hP) (sD_eq (mW_cg (by repeat (first | with_reducible rfl | with_reducible refine upd_cg ?_ | refine Eq.trans ?_ (upd_id rfl))) (by repeat (first | with_reducible rfl | with_reducible refine upF_cg ?_ | refine Eq.trans ?_ (upF_id rfl)))) hD) hS | exact K 13 ls _ _ _ H _ hr (by decide) dX12_write1_13 hP hD hS
set_option maxHeartbeats 4000000 in
set_option maxRecDepth 100000 in
theorem m_write1_0 (l : Launch) (dC : Nat → ClassId) (dI : Nat → Nat → Nat) (sz : Nat) (h0 : Nat) (kB kI kZ : ClassId) (q : Nat → Nat) (g : Nat → Int32) (F : Nat → Nat → Int32) (p1 : Int32) (p2 : Int32) (r : Int32) (c_g66 : Int32) (c_F61 : (Nat → Int32)) (hr : f_write1 g F (F 0) 2000 p1 p2 = some (r, c_g66, c_F61)) : Met l yX12_write1 vmX12_write1 ({ frames := 2, cells := 0, slots := 0, locals := 60 } : Room) (va_Pc [.ref h0, .ref (q 0), .int p1, .int p2] (fun U => U.heap.size = sz ∧ va_P (dC, dI) vwCl (mW h0 kB kI kZ q g F) U.heap ∧ va_K (dC, dI) vwCl (mT kB kI kZ) U ∧ va_D (fun _ => True) (mW h0 kB kI kZ q g F))) (va_Qi (fun (rz : Int32) (_ : Unit) => rz = r) (fun _ t => va_P (dC, dI) vwCl (mW h0 kB kI kZ q (upd g 66 c_g66) (upF F 61 c_F61)) t.heap ∧ va_K (dC, dI) vwCl (mT kB kI kZ) t ∧ va_D (va_A (mW h0 kB kI kZ q g F) sz) (mW h0 kB kI kZ q (upd g 66 c_g66) (upF F 61 c_F61))) (va_A (mW h0 kB kI kZ q g F) sz)) 0 0 (va_A (mW h0 kB kI kZ q g F) sz) := by
  refine Met.ofW (cc := cX12_write1) (maxL := 5) (ret := (some .boolean)) (by decide) rfl ?_
  intro p e s m args below meth c s₁ B hml hv
  obtain ⟨rfl, hsz, hP, hK, hD0⟩ := hv
  have hx := B.exec
  have hb := B.bytes
  have hrt := B.returns
  have hts := atoms_spec (ws := vmX12_write1) B.pre
  have hown : s.vm.findClass RX12 = some m.cls := findClass_of_methodNamed B.named
  subst hsz
  have hD := hD0.self (sz := s.heap.size)
  generalize hAe : va_A (mW h0 kB kI kZ q g F) s.heap.size = A at hD ⊢
  have hA : ∀ q : Nat, s.heap.size ≤ q → A q := fun q h => by rw [← hAe]; exact Or.inr h
  have hS : va_S A s.heap s.heap [] := va_S.rf
  have hl := lv_entry ([.ref h0, .ref (q 0), .int p1, .int p2]) (n := 5) (Nat.le_of_ble_eq_true rfl)
  rw [lg_entry_eq]
  generalize (lg_sl ([.ref h0, .ref (q 0), .int p1, .int p2]) ++ List.replicate (5 - (lg_sl ([.ref h0, .ref (q 0), .int p1, .int p2])).length) Slot.unset).toArray = ls at hl ⊢
  exact bm_write1_0 p1 p2 r c_g66 c_F61 hr hx hb hml hown hts hA hK hP hD hS hl (fun pc ls rz c_g66z c_F61z H locs he hz hd hP hD hS => by cases he; exact W.zret (v := r) hx hb hrt (z_nb hz) (fun t ht hW => ⟨⟨r, (), rfl, rfl, by rw [ht]; exact hP, va_K.moved hW.alike hK, hD⟩, hS.F ht⟩) hS.2.2 hd)
set_option maxHeartbeats 4000000 in
set_option maxRecDepth 100000 in
theorem bm_sameBytes_37_0 {p : Program} {l : Launch} {e : Env} {s : State} {m : MethodId} {args : Array Value} {below : List Frame} {meth : Method} {c : Code} {Q : State → Prop} {A : Nat → Prop} {dC : Nat → ClassId} {dI : Nat → Nat → Nat} {h0 : Nat} {kB kI kZ : ClassId} {q : Nat → Nat} {g : Nat → Int32} {F : Nat → Nat → Int32} {H : Heap} {locs : List Loc} {ls : Array Slot} (p1 : Int32) (p2 : Int32) (p4 : Int32) (p5 : Int32) (r : Int32) (hr : f_sameBytes (F 37) 288 p1 p2 (F 0) 2000 p4 p5 = some r) (hx : p.tables.exec = Jvm.exec) (hb : c.code = cX12_sameBytes) (hml : c.maxLocals = 7) (hown : s.vm.findClass RX12 = some m.cls) (hts : ∀ w ∈ vmX12_sameBytes, w.before args s = true) (hA : ∀ q : Nat, s.heap.size ≤ q → A q) (hK : va_K (dC, dI) vwCl (mT kB kI kZ) s) (hP : va_P (dC, dI) vwCl (mW h0 kB kI kZ q g F) H) (hD : va_D A (mW h0 kB kI kZ q g F)) (hS : va_S A s.heap H locs) (hl : lv_has ls 7 [(0, .ref (q 37)), (1, .int p1), (2, .int p2), (3, .ref (q 0)), (4, .int p4), (5, .int p5)])
    (K : ∀ (pc : Nat) (ls : Array Slot) (rz : Int32) (H : Heap) (locs : List Loc), some rz = some r → is01 rz → decode cX12_sameBytes pc = .ok (.ireturn, 1) → va_P (dC, dI) vwCl (mW h0 kB kI kZ q g F) H → va_D A (mW h0 kB kI kZ q g F) → va_S A s.heap H locs → W p l e ({ frames := 2, cells := 0, slots := 0, locals := 60 } : Room) s m args below meth c H locs 0 0 Q (F0 m pc ls [.int rz])) : W p l e ({ frames := 2, cells := 0, slots := 0, locals := 60 } : Room) s m args below meth c H locs 0 0 Q (F0 m 0 ls []) := by
  unfold f_sameBytes at hr
  refine lv_iload_n hx hb dX12_sameBytes_0 rfl (lv_at hl 2 rfl) ?_
  refine lv_iload hx hb dX12_sameBytes_1 (lv_at hl 5 rfl) ?_
  refine lv_icmp_eq (tgt := 8) hx hb dX12_sameBytes_3 (by decide) (fun c3 => ?_) (fun c3 => ?_)
  · replace hr := iteT c3 hr
    refine lv_iconst (v := 0) hx hb dX12_sameBytes_8 (by decide +kernel) ?_
    refine lv_istore (lv' := [(6, .int 0), (0, .ref (q 37)), (1, .int p1), (2, .int p2), (3, .ref (q 0)), (4, .int p4), (5, .int p5)]) hx hb dX12_sameBytes_9 hl (by decide) rfl (fun ls hl => ?_)
    have lp11 : ∀ (n11 : Nat) (y11_6 : Int32) (H : Heap) (locs : List Loc) (ls : Array Slot), L_sameBytes_11 (F 37) 288 p1 p2 (F 0) 2000 p4 n11 y11_6 = some r → va_P (dC, dI) vwCl (mW h0 kB kI kZ q g F) H → va_D A (mW h0 kB kI kZ q g F) → va_S A s.heap H locs → lv_has ls 7 [(0, .ref (q 37)), (1, .int p1), (2, .int p2), (3, .ref (q 0)), (4, .int p4), (6, .int y11_6)] → W p l e ({ frames := 2, cells := 0, slots := 0, locals := 60 } : Room) s m args below meth c H locs 0 0 Q (F0 m 11 ls []) := by
      intro n11
      induction n11 with
      | zero => intro y11_6 H locs ls hr; exact nomatch (show none = some r from hr)
      | succ n11 ih11 =>
        intro y11_6 H locs ls hr hP hD hS hl
        replace hr : B_sameBytes_11 (F 37) 288 p1 p2 (F 0) 2000 p4 (L_sameBytes_11 (F 37) 288 p1 p2 (F 0) 2000 p4 n11) y11_6 = some r := hr
        unfold B_sameBytes_11 at hr
        refine lv_iload hx hb dX12_sameBytes_11 (lv_at hl 5 rfl) ?_
        refine lv_iload_n hx hb dX12_sameBytes_13 rfl (lv_at hl 2 rfl) ?_
        refine lv_icmp_ge (tgt := 41) hx hb dX12_sameBytes_14 (by decide) (fun c14 => ?_) (fun c14 => ?_)
        · replace hr := iteT c14 hr
          refine lv_iconst (v := 1) hx hb dX12_sameBytes_41 (by decide +kernel) ?_
          exact K 42 ls _ H _ hr (by decide) dX12_sameBytes_42 hP hD hS
        · replace hr := iteF c14 hr
          refine lv_aload_n hx hb dX12_sameBytes_17 rfl (lv_at hl 0 rfl) ?_
          refine lv_iload_n hx hb dX12_sameBytes_18 rfl (lv_at hl 1 rfl) ?_
          refine lv_iload hx hb dX12_sameBytes_19 (lv_at hl 5 rfl) ?_
          refine lv_iadd hx hb dX12_sameBytes_21 ?_
          replace hr := iteS hr
          obtain ⟨hi22, hr⟩ := hr
          refine va_bald (f := (F 37)) hx hb hK hP 23 0 rfl rfl (inbV hi22) dX12_sameBytes_22 ?_
          refine lv_aload_n hx hb dX12_sameBytes_23 rfl (lv_at hl 3 rfl) ?_
          refine lv_iload hx hb dX12_sameBytes_24 (lv_at hl 4 rfl) ?_
          refine lv_iload hx hb dX12_sameBytes_26 (lv_at hl 5 rfl) ?_
          refine lv_iadd hx hb dX12_sameBytes_28 ?_
          replace hr := iteS hr
          obtain ⟨hi29, hr⟩ := hr
          refine va_bald (f := (F 0)) hx hb hK hP 1 0 rfl rfl (inbV hi29) dX12_sameBytes_29 ?_
          refine lv_icmp_eq (tgt := 35) hx hb dX12_sameBytes_30 (by decide) (fun c30 => ?_) (fun c30 => ?_)
          · replace hr := iteT c30 hr
            refine lv_iinc (v := (y11_6 + 1)) (lv' := [(6, .int (y11_6 + 1)), (0, .ref (q 37)), (1, .int p1), (2, .int p2), (3, .ref (q 0)), (4, .int p4)]) hx hb dX12_sameBytes_35 hl (k := 5) rfl rfl (by decide) rfl (fun ls hl => ?_)
            refine lv_goto (tgt := 11) hx hb dX12_sameBytes_38 (by decide) ?_
            exact ih11 (y11_6 + 1) H _ ls hr hP hD hS (lv_sub hl [1, 2, 3, 4, 5, 0] rfl)
          · replace hr := iteF c30 hr
            refine lv_iconst (v := 0) hx hb dX12_sameBytes_33 (by decide +kernel) ?_
            exact K 34 ls _ H _ hr (by decide) dX12_sameBytes_34 hP hD hS
    exact lp11 NN 0 H _ ls hr hP hD hS (lv_sub hl [1, 2, 3, 4, 5, 0] rfl)
  · replace hr := iteF c3 hr
    refine lv_iconst (v := 0) hx hb dX12_sameBytes_6 (by decide +kernel) ?_
    exact K 7 ls _ H _ hr (by decide) dX12_sameBytes_7 hP hD hS
set_option maxHeartbeats 4000000 in
set_option maxRecDepth 100000 in
theorem m_sameBytes_37_0 (l : Launch) (dC : Nat → ClassId) (dI : Nat → Nat → Nat) (sz : Nat) (h0 : Nat) (kB kI kZ : ClassId) (q : Nat → Nat) (g : Nat → Int32) (F : Nat → Nat → Int32) (p1 : Int32) (p2 : Int32) (p4 : Int32) (p5 : Int32) (r : Int32) (hr : f_sameBytes (F 37) 288 p1 p2 (F 0) 2000 p4 p5 = some r) : Met l yX12_sameBytes vmX12_sameBytes ({ frames := 2, cells := 0, slots := 0, locals := 60 } : Room) (va_Pc [.ref (q 37), .int p1, .int p2, .ref (q 0), .int p4, .int p5] (fun U => U.heap.size = sz ∧ va_P (dC, dI) vwCl (mW h0 kB kI kZ q g F) U.heap ∧ va_K (dC, dI) vwCl (mT kB kI kZ) U ∧ va_D (fun _ => True) (mW h0 kB kI kZ q g F))) (va_Qi (fun (rz : Int32) (_ : Unit) => rz = r) (fun _ t => va_P (dC, dI) vwCl (mW h0 kB kI kZ q g F) t.heap ∧ va_K (dC, dI) vwCl (mT kB kI kZ) t ∧ va_D (va_A (mW h0 kB kI kZ q g F) sz) (mW h0 kB kI kZ q g F)) (va_A (mW h0 kB kI kZ q g F) sz)) 0 0 (va_A (mW h0 kB kI kZ q g F) sz) := by
  refine Met.ofW (cc := cX12_sameBytes) (maxL := 7) (ret := (some .boolean)) (by decide) rfl ?_
  intro p e s m args below meth c s₁ B hml hv
  obtain ⟨rfl, hsz, hP, hK, hD0⟩ := hv
  have hx := B.exec
  have hb := B.bytes
  have hrt := B.returns
  have hts := atoms_spec (ws := vmX12_sameBytes) B.pre
  have hown : s.vm.findClass RX12 = some m.cls := findClass_of_methodNamed B.named
  subst hsz
  have hD := hD0.self (sz := s.heap.size)
  generalize hAe : va_A (mW h0 kB kI kZ q g F) s.heap.size = A at hD ⊢
  have hA : ∀ q : Nat, s.heap.size ≤ q → A q := fun q h => by rw [← hAe]; exact Or.inr h
  have hS : va_S A s.heap s.heap [] := va_S.rf
  have hl := lv_entry ([.ref (q 37), .int p1, .int p2, .ref (q 0), .int p4, .int p5]) (n := 7) (Nat.le_of_ble_eq_true rfl)
  rw [lg_entry_eq]
  generalize (lg_sl ([.ref (q 37), .int p1, .int p2, .ref (q 0), .int p4, .int p5]) ++ List.replicate (7 - (lg_sl ([.ref (q 37), .int p1, .int p2, .ref (q 0), .int p4, .int p5])).length) Slot.unset).toArray = ls at hl ⊢
  exact bm_sameBytes_37_0 p1 p2 p4 p5 r hr hx hb hml hown hts hA hK hP hD hS hl (fun pc ls rz H locs he hz hd hP hD hS => by cases he; exact W.zret (v := r) hx hb hrt (z_nb hz) (fun t ht hW => ⟨⟨r, (), rfl, rfl, by rw [ht]; exact hP, va_K.moved hW.alike hK, hD⟩, hS.F ht⟩) hS.2.2 hd)
set_option maxHeartbeats 4000000 in
set_option maxRecDepth 100000 in
theorem bm_write1_37 {p : Program} {l : Launch} {e : Env} {s : State} {m : MethodId} {args : Array Value} {below : List Frame} {meth : Method} {c : Code} {Q : State → Prop} {A : Nat → Prop} {dC : Nat → ClassId} {dI : Nat → Nat → Nat} {h0 : Nat} {kB kI kZ : ClassId} {q : Nat → Nat} {g : Nat → Int32} {F : Nat → Nat → Int32} {H : Heap} {locs : List Loc} {ls : Array Slot} (p1 : Int32) (p2 : Int32) (r : Int32) (c_g66 : Int32) (c_F61 : (Nat → Int32)) (hr : f_write1 g F (F 37) 288 p1 p2 = some (r, c_g66, c_F61)) (hx : p.tables.exec = Jvm.exec) (hb : c.code = cX12_write1) (hml : c.maxLocals = 5) (hown : s.vm.findClass RX12 = some m.cls) (hts : ∀ w ∈ vmX12_write1, w.before args s = true) (hA : ∀ q : Nat, s.heap.size ≤ q → A q) (hK : va_K (dC, dI) vwCl (mT kB kI kZ) s) (hP : va_P (dC, dI) vwCl (mW h0 kB kI kZ q g F) H) (hD : va_D A (mW h0 kB kI kZ q g F)) (hS : va_S A s.heap H locs) (hl : lv_has ls 5 [(0, .ref h0), (1, .ref (q 37)), (2, .int p1), (3, .int p2)])
    (K : ∀ (pc : Nat) (ls : Array Slot) (rz : Int32) (c_g66z : Int32) (c_F61z : (Nat → Int32)) (H : Heap) (locs : List Loc), some (rz, c_g66z, c_F61z) = some (r, c_g66, c_F61) → is01 rz → decode cX12_write1 pc = .ok (.ireturn, 1) → va_P (dC, dI) vwCl (mW h0 kB kI kZ q (upd g 66 c_g66z) (upF F 61 c_F61z)) H → va_D A (mW h0 kB kI kZ q (upd g 66 c_g66z) (upF F 61 c_F61z)) → va_S A s.heap H locs → W p l e ({ frames := 2, cells := 0, slots := 0, locals := 60 } : Room) s m args below meth c H locs 0 0 Q (F0 m pc ls [.int rz])) : W p l e ({ frames := 2, cells := 0, slots := 0, locals := 60 } : Room) s m args below meth c H locs 0 0 Q (F0 m 0 ls []) := by
  unfold f_write1 at hr
  refine lv_aload_n hx hb dX12_write1_0 rfl (lv_at hl 0 rfl) ?_
  refine va_get (D := (dC, dI)) (ci := 12) (v := .int (g 66)) (C := RX12) (T := TX12) (N := 71) hx hb hts inX12 hown hK hP 0 rfl rfl 66 (by decide) (hts (.fieldLink RX12 337 "SpellTurnerModel" "drafted" "I") im_208) (fun _ h9 => h9) rfl dX12_write1_1 ?_
  refine lv_iload_n hx hb dX12_write1_4 rfl (lv_at hl 3 rfl) ?_
  refine lv_iadd hx hb dX12_write1_5 ?_
  refine lv_sipush (v := 2500) hx hb dX12_write1_6 (by decide +kernel) ?_
  refine lv_icmp_le (tgt := 14) hx hb dX12_write1_9 (by decide) (fun c9 => ?_) (fun c9 => ?_)
  · replace hr := iteT c9 hr
    refine lv_iconst (v := 0) hx hb dX12_write1_14 (by decide +kernel) ?_
    refine lv_istore (lv' := [(4, .int 0), (0, .ref h0), (1, .ref (q 37)), (2, .int p1), (3, .int p2)]) hx hb dX12_write1_15 hl (by decide) rfl (fun ls hl => ?_)
    have lp17 : ∀ (n17 : Nat) (y17_4 : Int32) (d17_F61 : (Nat → Int32)) (H : Heap) (locs : List Loc) (ls : Array Slot), L_write1_17 g (F 37) 288 p1 p2 n17 y17_4 d17_F61 = some (r, c_g66, c_F61) → va_P (dC, dI) vwCl (mW h0 kB kI kZ q g (upF F 61 d17_F61)) H → va_D A (mW h0 kB kI kZ q g (upF F 61 d17_F61)) → va_S A s.heap H locs → lv_has ls 5 [(0, .ref h0), (1, .ref (q 37)), (2, .int p1), (3, .int p2), (4, .int y17_4)] → W p l e ({ frames := 2, cells := 0, slots := 0, locals := 60 } : Room) s m args below meth c H locs 0 0 Q (F0 m 17 ls []) := by
      intro n17
      induction n17 with
      | zero => intro y17_4 d17_F61 H locs ls hr; exact nomatch (show none = some (r, c_g66, c_F61) from hr)
      | succ n17 ih17 =>
        intro y17_4 d17_F61 H locs ls hr hP hD hS hl
        replace hr : B_write1_17 g (F 37) 288 p1 p2 (L_write1_17 g (F 37) 288 p1 p2 n17) y17_4 d17_F61 = some (r, c_g66, c_F61) := hr
        unfold B_write1_17 at hr
        refine lv_iload hx hb dX12_write1_17 (lv_at hl 4 rfl) ?_
        refine lv_iload_n hx hb dX12_write1_19 rfl (lv_at hl 3 rfl) ?_
        refine lv_icmp_ge (tgt := 47) hx hb dX12_write1_20 (by decide) (fun c20 => ?_) (fun c20 => ?_)
        · replace hr := iteT c20 hr
          refine lv_aload_n hx hb dX12_write1_47 rfl (lv_at hl 0 rfl) ?_
          refine lv_dup hx hb dX12_write1_48 rfl ?_
          refine va_get (D := (dC, dI)) (ci := 12) (v := .int (g 66)) (C := RX12) (T := TX12) (N := 71) hx hb hts inX12 hown hK hP 0 rfl rfl 66 (by decide) (hts (.fieldLink RX12 337 "SpellTurnerModel" "drafted" "I") im_208) (fun _ h9 => h9) rfl dX12_write1_49 ?_
          refine lv_iload_n hx hb dX12_write1_52 rfl (lv_at hl 3 rfl) ?_
          refine lv_iadd hx hb dX12_write1_53 ?_
          refine lv_topi (fun x54 ex54 => ?_)
          replace hr := vlS hr x54 ex54
          clear ex54
          refine va_put (D := (dC, dI)) (ci := 12) (v := .int x54) (ty := .int) (C := RX12) (T := TX12) (N := 71) hx hb hts inX12 tyX12 tyX12_ok nmX12 hown hK hP hD hS 0 rfl rfl 66 (by decide) (hts (.fieldLink RX12 337 "SpellTurnerModel" "drafted" "I") im_208) (fun _ h9 => h9) rfl (by decide +kernel) rfl rfl (Nat.le_of_ble_eq_true rfl) dX12_write1_54 (fun H locs hP hD hS => ?_)
          have hP : va_P (dC, dI) vwCl (mW h0 kB kI kZ q (upd g 66 x54) (upF F 61 d17_F61)) H := by first | exact sP_g66 hP rfl | exact sP_g66 hP upd_same | exact hP
          have hD : va_D A (mW h0 kB kI kZ q (upd g 66 x54) (upF F 61 d17_F61)) := by first | exact sD_g66 hD rfl | exact sD_g66 hD upd_same | exact hD
          refine lv_iconst (v := 1) hx hb dX12_write1_57 (by decide +kernel) ?_
          first | exact K 58 ls _ _ _ H _ hr (by decide) dX12_write1_58 (sP_eq (mW_cg (by repeat (first | with_reducible rfl | with_reducible refine upd_cg ?_ | refine Eq.trans ?_ (upd_id rfl))) (by repeat (first | with_reducible rfl | with_reducible refine upF_cg ?_ | refine Eq.trans ?_ (upF_id rfl)))) hP) (sD_eq (mW_cg (by repeat (first | with_reducible rfl | with_reducible refine upd_cg ?_ | refine Eq.trans ?_ (upd_id rfl))) (by repeat (first | with_reducible rfl | with_reducible refine upF_cg ?_ | refine Eq.trans ?_ (upF_id rfl)))) hD) hS | exact K 58 ls _ _ _ H _ hr (by decide) dX12_write1_58 hP hD hS
        · replace hr := iteF c20 hr
          refine lv_aload_n hx hb dX12_write1_23 rfl (lv_at hl 0 rfl) ?_
          refine va_get (D := (dC, dI)) (ci := 12) (v := .ref (q 61)) (C := RX12) (T := TX12) (N := 71) hx hb hts inX12 hown hK hP 0 rfl rfl 61 (by decide) (hts (.fieldLink RX12 134 "SpellTurnerModel" "draft" "[B") im_209) (fun _ h9 => h9) rfl dX12_write1_24 ?_
          refine lv_aload_n hx hb dX12_write1_27 rfl (lv_at hl 0 rfl) ?_
          refine va_get (D := (dC, dI)) (ci := 12) (v := .int (g 66)) (C := RX12) (T := TX12) (N := 71) hx hb hts inX12 hown hK hP 0 rfl rfl 66 (by decide) (hts (.fieldLink RX12 337 "SpellTurnerModel" "drafted" "I") im_208) (fun _ h9 => h9) rfl dX12_write1_28 ?_
          refine lv_iload hx hb dX12_write1_31 (lv_at hl 4 rfl) ?_
          refine lv_iadd hx hb dX12_write1_33 ?_
          refine lv_aload_n hx hb dX12_write1_34 rfl (lv_at hl 1 rfl) ?_
          refine lv_iload_n hx hb dX12_write1_35 rfl (lv_at hl 2 rfl) ?_
          refine lv_iload hx hb dX12_write1_36 (lv_at hl 4 rfl) ?_
          refine lv_iadd hx hb dX12_write1_38 ?_
          replace hr := iteS hr
          obtain ⟨hi39, hr⟩ := hr
          refine va_bald (f := (F 37)) hx hb hK hP 23 0 rfl rfl (inbV hi39) dX12_write1_39 ?_
          replace hr := iteS hr
          obtain ⟨hi40, hr⟩ := hr
          refine va_bast (f := d17_F61) hx hb hK hP hD hS 40 0 rfl rfl (inbV hi40) dX12_write1_40 (fun H locs hP hD hS => ?_)
          obtain ⟨w40, ew40, hP, hD⟩ : ∃ w40 : Nat → Int32, w40 = (upd d17_F61 (Int32.toNatClampNeg ((g 66) + y17_4)) (vp_nar .byte ((F 37) (Int32.toNatClampNeg (p1 + y17_4))))) ∧ va_P (dC, dI) vwCl (mW h0 kB kI kZ q g (upF F 61 w40)) H ∧ va_D A (mW h0 kB kI kZ q g (upF F 61 w40)) := ⟨(upd d17_F61 (Int32.toNatClampNeg ((g 66) + y17_4)) (vp_nar .byte ((F 37) (Int32.toNatClampNeg (p1 + y17_4))))), rfl, by first | exact sP_F61 hP upF_same | exact sP_F61 hP rfl | exact hP, by first | exact sD_F61 hD upF_same | exact sD_F61 hD rfl | exact hD⟩
          replace hr := vlS hr w40 ew40
          clear ew40
          refine lv_iinc (v := (y17_4 + 1)) (lv' := [(4, .int (y17_4 + 1)), (0, .ref h0), (1, .ref (q 37)), (2, .int p1), (3, .int p2)]) hx hb dX12_write1_41 hl (k := 4) rfl rfl (by decide) rfl (fun ls hl => ?_)
          refine lv_goto (tgt := 17) hx hb dX12_write1_44 (by decide) ?_
          exact ih17 (y17_4 + 1) w40 H _ ls hr hP hD hS (lv_sub hl [1, 2, 3, 4, 0] rfl)
    first | exact lp17 NN 0 (F 61) H _ ls hr (sP_eq (mW_cg (by repeat (first | with_reducible rfl | with_reducible refine upd_cg ?_ | refine Eq.trans ?_ (upd_id rfl))) (by repeat (first | with_reducible rfl | with_reducible refine upF_cg ?_ | refine Eq.trans ?_ (upF_id rfl)))) hP) (sD_eq (mW_cg (by repeat (first | with_reducible rfl | with_reducible refine upd_cg ?_ | refine Eq.trans ?_ (upd_id rfl))) (by repeat (first | with_reducible rfl | with_reducible refine upF_cg ?_ | refine Eq.trans ?_ (upF_id rfl)))) hD) hS (lv_sub hl [1, 2, 3, 4, 0] rfl) | exact lp17 NN 0 (F 61) H _ ls hr hP hD hS (lv_sub hl [1, 2, 3, 4, 0] rfl)
  · replace hr := iteF c9 hr
    refine lv_iconst (v := 0) hx hb dX12_write1_12 (by decide +kernel) ?_
    first | exact K 13 ls _ _ _ H _ hr (by decide) dX12_write1_13 (sP_eq (mW_cg (by repeat (first | with_reducible rfl | with_reducible refine upd_cg ?_ | refine Eq.trans ?_ (upd_id rfl))) (by repeat (first | with_reducible rfl | with_reducible refine upF_cg ?_ | refine Eq.trans ?_ (upF_id rfl)))) hP) (sD_eq (mW_cg (by repeat (first | with_reducible rfl | with_reducible refine upd_cg ?_ | refine Eq.trans ?_ (upd_id rfl))) (by repeat (first | with_reducible rfl | with_reducible refine upF_cg ?_ | refine Eq.trans ?_ (upF_id rfl)))) hD) hS | exact K 13 ls _ _ _ H _ hr (by decide) dX12_write1_13 hP hD hS
set_option maxHeartbeats 4000000 in
set_option maxRecDepth 100000 in
theorem m_write1_37 (l : Launch) (dC : Nat → ClassId) (dI : Nat → Nat → Nat) (sz : Nat) (h0 : Nat) (kB kI kZ : ClassId) (q : Nat → Nat) (g : Nat → Int32) (F : Nat → Nat → Int32) (p1 : Int32) (p2 : Int32) (r : Int32) (c_g66 : Int32) (c_F61 : (Nat → Int32)) (hr : f_write1 g F (F 37) 288 p1 p2 = some (r, c_g66, c_F61)) : Met l yX12_write1 vmX12_write1 ({ frames := 2, cells := 0, slots := 0, locals := 60 } : Room) (va_Pc [.ref h0, .ref (q 37), .int p1, .int p2] (fun U => U.heap.size = sz ∧ va_P (dC, dI) vwCl (mW h0 kB kI kZ q g F) U.heap ∧ va_K (dC, dI) vwCl (mT kB kI kZ) U ∧ va_D (fun _ => True) (mW h0 kB kI kZ q g F))) (va_Qi (fun (rz : Int32) (_ : Unit) => rz = r) (fun _ t => va_P (dC, dI) vwCl (mW h0 kB kI kZ q (upd g 66 c_g66) (upF F 61 c_F61)) t.heap ∧ va_K (dC, dI) vwCl (mT kB kI kZ) t ∧ va_D (va_A (mW h0 kB kI kZ q g F) sz) (mW h0 kB kI kZ q (upd g 66 c_g66) (upF F 61 c_F61))) (va_A (mW h0 kB kI kZ q g F) sz)) 0 0 (va_A (mW h0 kB kI kZ q g F) sz) := by
  refine Met.ofW (cc := cX12_write1) (maxL := 5) (ret := (some .boolean)) (by decide) rfl ?_
  intro p e s m args below meth c s₁ B hml hv
  obtain ⟨rfl, hsz, hP, hK, hD0⟩ := hv
  have hx := B.exec
  have hb := B.bytes
  have hrt := B.returns
  have hts := atoms_spec (ws := vmX12_write1) B.pre
  have hown : s.vm.findClass RX12 = some m.cls := findClass_of_methodNamed B.named
  subst hsz
  have hD := hD0.self (sz := s.heap.size)
  generalize hAe : va_A (mW h0 kB kI kZ q g F) s.heap.size = A at hD ⊢
  have hA : ∀ q : Nat, s.heap.size ≤ q → A q := fun q h => by rw [← hAe]; exact Or.inr h
  have hS : va_S A s.heap s.heap [] := va_S.rf
  have hl := lv_entry ([.ref h0, .ref (q 37), .int p1, .int p2]) (n := 5) (Nat.le_of_ble_eq_true rfl)
  rw [lg_entry_eq]
  generalize (lg_sl ([.ref h0, .ref (q 37), .int p1, .int p2]) ++ List.replicate (5 - (lg_sl ([.ref h0, .ref (q 37), .int p1, .int p2])).length) Slot.unset).toArray = ls at hl ⊢
  exact bm_write1_37 p1 p2 r c_g66 c_F61 hr hx hb hml hown hts hA hK hP hD hS hl (fun pc ls rz c_g66z c_F61z H locs he hz hd hP hD hS => by cases he; exact W.zret (v := r) hx hb hrt (z_nb hz) (fun t ht hW => ⟨⟨r, (), rfl, rfl, by rw [ht]; exact hP, va_K.moved hW.alike hK, hD⟩, hS.F ht⟩) hS.2.2 hd)
set_option maxHeartbeats 4000000 in
set_option maxRecDepth 100000 in
theorem bm_writeWord {p : Program} {l : Launch} {e : Env} {s : State} {m : MethodId} {args : Array Value} {below : List Frame} {meth : Method} {c : Code} {Q : State → Prop} {A : Nat → Prop} {dC : Nat → ClassId} {dI : Nat → Nat → Nat} {h0 : Nat} {kB kI kZ : ClassId} {q : Nat → Nat} {g : Nat → Int32} {F : Nat → Nat → Int32} {H : Heap} {locs : List Loc} {ls : Array Slot} (p0 : Int32) (p1 : Int32) (p2 : Int32) (p3 : Int32) (r : Int32) (c_g23 : Int32) (c_g27 : Int32) (c_g30 : Int32) (c_g34 : Int32) (c_g36 : Int32) (c_g39 : Int32) (c_g66 : Int32) (c_F22 : (Nat → Int32)) (c_F24 : (Nat → Int32)) (c_F25 : (Nat → Int32)) (c_F26 : (Nat → Int32)) (c_F28 : (Nat → Int32)) (c_F29 : (Nat → Int32)) (c_F31 : (Nat → Int32)) (c_F32 : (Nat → Int32)) (c_F33 : (Nat → Int32)) (c_F37 : (Nat → Int32)) (c_F38 : (Nat → Int32)) (c_F40 : (Nat → Int32)) (c_F41 : (Nat → Int32)) (c_F61 : (Nat → Int32)) (c_F64 : (Nat → Int32)) (hr : f_writeWord g F p0 p1 p2 p3 = some (r, c_g23, c_g27, c_g30, c_g34, c_g36, c_g39, c_g66, c_F22, c_F24, c_F25, c_F26, c_F28, c_F29, c_F31, c_F32, c_F33, c_F37, c_F38, c_F40, c_F41, c_F61, c_F64)) (hx : p.tables.exec = Jvm.exec) (hb : c.code = cX12_writeWord) (hml : c.maxLocals = 5) (hown : s.vm.findClass RX12 = some m.cls) (hts : ∀ w ∈ vmX12_writeWord, w.before args s = true) (hA : ∀ q : Nat, s.heap.size ≤ q → A q) (hK : va_K (dC, dI) vwCl (mT kB kI kZ) s) (hP : va_P (dC, dI) vwCl (mW h0 kB kI kZ q g F) H) (hD : va_D A (mW h0 kB kI kZ q g F)) (hS : va_S A s.heap H locs) (hl : lv_has ls 5 [(0, .ref h0), (1, .int p0), (2, .int p1), (3, .int p2), (4, .int p3)])
    (K : ∀ (pc : Nat) (ls : Array Slot) (rz : Int32) (c_g23z : Int32) (c_g27z : Int32) (c_g30z : Int32) (c_g34z : Int32) (c_g36z : Int32) (c_g39z : Int32) (c_g66z : Int32) (c_F22z : (Nat → Int32)) (c_F24z : (Nat → Int32)) (c_F25z : (Nat → Int32)) (c_F26z : (Nat → Int32)) (c_F28z : (Nat → Int32)) (c_F29z : (Nat → Int32)) (c_F31z : (Nat → Int32)) (c_F32z : (Nat → Int32)) (c_F33z : (Nat → Int32)) (c_F37z : (Nat → Int32)) (c_F38z : (Nat → Int32)) (c_F40z : (Nat → Int32)) (c_F41z : (Nat → Int32)) (c_F61z : (Nat → Int32)) (c_F64z : (Nat → Int32)) (H : Heap) (locs : List Loc), some (rz, c_g23z, c_g27z, c_g30z, c_g34z, c_g36z, c_g39z, c_g66z, c_F22z, c_F24z, c_F25z, c_F26z, c_F28z, c_F29z, c_F31z, c_F32z, c_F33z, c_F37z, c_F38z, c_F40z, c_F41z, c_F61z, c_F64z) = some (r, c_g23, c_g27, c_g30, c_g34, c_g36, c_g39, c_g66, c_F22, c_F24, c_F25, c_F26, c_F28, c_F29, c_F31, c_F32, c_F33, c_F37, c_F38, c_F40, c_F41, c_F61, c_F64) → is01 rz → decode cX12_writeWord pc = .ok (.ireturn, 1) → va_P (dC, dI) vwCl (mW h0 kB kI kZ q (upd (upd (upd (upd (upd (upd (upd g 23 c_g23z) 27 c_g27z) 30 c_g30z) 34 c_g34z) 36 c_g36z) 39 c_g39z) 66 c_g66z) (upF (upF (upF (upF (upF (upF (upF (upF (upF (upF (upF (upF (upF (upF (upF F 22 c_F22z) 24 c_F24z) 25 c_F25z) 26 c_F26z) 28 c_F28z) 29 c_F29z) 31 c_F31z) 32 c_F32z) 33 c_F33z) 37 c_F37z) 38 c_F38z) 40 c_F40z) 41 c_F41z) 61 c_F61z) 64 c_F64z)) H → va_D A (mW h0 kB kI kZ q (upd (upd (upd (upd (upd (upd (upd g 23 c_g23z) 27 c_g27z) 30 c_g30z) 34 c_g34z) 36 c_g36z) 39 c_g39z) 66 c_g66z) (upF (upF (upF (upF (upF (upF (upF (upF (upF (upF (upF (upF (upF (upF (upF F 22 c_F22z) 24 c_F24z) 25 c_F25z) 26 c_F26z) 28 c_F28z) 29 c_F29z) 31 c_F31z) 32 c_F32z) 33 c_F33z) 37 c_F37z) 38 c_F38z) 40 c_F40z) 41 c_F41z) 61 c_F61z) 64 c_F64z)) → va_S A s.heap H locs → W p l e ({ frames := 47, cells := 0, slots := 0, locals := 1146 } : Room) s m args below meth c H locs 0 0 Q (F0 m pc ls [.int rz])) : W p l e ({ frames := 47, cells := 0, slots := 0, locals := 1146 } : Room) s m args below meth c H locs 0 0 Q (F0 m 0 ls []) := by
  unfold f_writeWord at hr
  refine lv_aload_n hx hb dX12_writeWord_0 rfl (lv_at hl 0 rfl) ?_
  refine lv_iload_n hx hb dX12_writeWord_1 rfl (lv_at hl 1 rfl) ?_
  refine lv_iload_n hx hb dX12_writeWord_2 rfl (lv_at hl 2 rfl) ?_
  replace hr := b1S hr
  obtain ⟨r3z, hc3, hr⟩ := hr
  have hFc := fr_all hD hS hA
  refine va_calli (va_runV (As := [.int p0, .int p1]) (rest := []) ⟨hx, hb, hml, hown, hts⟩ (m_isName l dC dI H.size h0 kB kI kZ q g F p0 p1 r3z hc3) (cwV 2 hts gw_X12_isName_340 rfl rfl rfl (by decide +kernel) ⟨Nat.le_of_ble_eq_true rfl, Nat.le_of_ble_eq_true rfl⟩) ⟨fun a U g mk q => by obtain ⟨q0, q1, qP, qK, qD⟩ := q; exact ⟨q0, q1, qP, va_K.moved (u := U) (U := U.calling g mk a) (Vm.Alike.refl U.vm) qK, qD⟩, va_recv hK hP (ci := 12) (q0 := 0) rfl rfl, fun U hU hW => ⟨rfl, by rw [hU], by rw [hU]; exact hP, va_K.moved hW.alike hK, hD.weaken (fun _ _ _ _ => trivial)⟩⟩ rfl rfl hl.1 rfl (lv_room (Nat.le_of_ble_eq_true rfl)) dX12_writeWord_3 ⟨Nat.le_of_ble_eq_true rfl, Nat.le_of_ble_eq_true rfl⟩) hS (fun q _ h => hFc q h) hFc (fun r3 u t H1 locs ht hvm hw hB hz1 hk1 hS => ?_)
  replace hw : r3 = r3z := hw
  subst hw
  obtain ⟨hP1, hK1, hD1⟩ := hB
  rw [ht] at hP1
  obtain ⟨hP, hD⟩ := jn_all (w1 := (mW h0 kB kI kZ q g F)) hFc hP1 hD1
  clear hFc hP1 hK1 hD1 hk1 hz1 ht hvm
  generalize H1 = H at hP hS ⊢
  have hP : va_P (dC, dI) vwCl (mW h0 kB kI kZ q g F) H := hP
  have hD : va_D A (mW h0 kB kI kZ q g F) := hD
  refine lv_if_eq (tgt := 32) hx hb dX12_writeWord_6 (by decide) (fun c6 => ?_) (fun c6 => ?_)
  · replace hr := iteT c6 hr
    refine lv_aload_n hx hb dX12_writeWord_32 rfl (lv_at hl 0 rfl) ?_
    refine va_get (D := (dC, dI)) (ci := 12) (v := .ref (q 64)) (C := RX12) (T := TX12) (N := 71) hx hb hts inX12 hown hK hP 0 rfl rfl 64 (by decide) (hts (.fieldLink RX12 140 "SpellTurnerModel" "newCounts" "[I") im_214) (fun _ h9 => h9) rfl dX12_writeWord_33 ?_
    refine lv_iconst (v := 0) hx hb dX12_writeWord_36 (by decide +kernel) ?_
    refine lv_dup2_11 hx hb dX12_writeWord_37 rfl rfl ?_
    replace hr := iteS hr
    obtain ⟨hi38, hr⟩ := hr
    refine va_iald (f := (F 64)) hx hb hK hP 42 1 rfl rfl (inbV hi38) dX12_writeWord_38 ?_
    refine lv_iconst (v := 1) hx hb dX12_writeWord_39 (by decide +kernel) ?_
    refine lv_iadd hx hb dX12_writeWord_40 ?_
    replace hr := iteS hr
    obtain ⟨hi41, hr⟩ := hr
    refine va_iast (f := (F 64)) hx hb hK hP hD hS 42 1 rfl rfl (inbV hi41) dX12_writeWord_41 (fun H locs hP hD hS => ?_)
    obtain ⟨w41, ew41, hP, hD⟩ : ∃ w41 : Nat → Int32, w41 = (upd (F 64) (Int32.toNatClampNeg 0) (((F 64) (Int32.toNatClampNeg 0)) + 1)) ∧ va_P (dC, dI) vwCl (mW h0 kB kI kZ q g (upF F 64 w41)) H ∧ va_D A (mW h0 kB kI kZ q g (upF F 64 w41)) := ⟨(upd (F 64) (Int32.toNatClampNeg 0) (((F 64) (Int32.toNatClampNeg 0)) + 1)), rfl, by first | exact sP_F64 hP rfl | exact sP_F64 hP upF_same | exact hP, by first | exact sD_F64 hD rfl | exact sD_F64 hD upF_same | exact hD⟩
    replace hr := vlS hr w41 ew41
    clear ew41
    refine lv_aload_n hx hb dX12_writeWord_42 rfl (lv_at hl 0 rfl) ?_
    refine lv_iconst (v := 0) hx hb dX12_writeWord_43 (by decide +kernel) ?_
    refine va_put (D := (dC, dI)) (ci := 12) (v := .int 0) (ty := .int) (C := RX12) (T := TX12) (N := 71) hx hb hts inX12 tyX12 tyX12_ok nmX12 hown hK hP hD hS 0 rfl rfl 39 (by decide) (hts (.fieldLink RX12 287 "SpellTurnerModel" "nows" "I") im_176) (fun _ h9 => h9) rfl (by decide +kernel) rfl rfl (Nat.le_of_ble_eq_true rfl) dX12_writeWord_44 (fun H locs hP hD hS => ?_)
    have hP : va_P (dC, dI) vwCl (mW h0 kB kI kZ q (upd g 39 0) (upF F 64 w41)) H := by first | exact sP_g39 hP rfl | exact sP_g39 hP upd_same | exact hP
    have hD : va_D A (mW h0 kB kI kZ q (upd g 39 0) (upF F 64 w41)) := by first | exact sD_g39 hD rfl | exact sD_g39 hD upd_same | exact hD
    refine lv_iload_n hx hb dX12_writeWord_47 rfl (lv_at hl 2 rfl) ?_
    refine lv_iload_n hx hb dX12_writeWord_48 rfl (lv_at hl 1 rfl) ?_
    refine lv_isub hx hb dX12_writeWord_49 ?_
    refine lv_bipush (v := 24) hx hb dX12_writeWord_50 (by decide +kernel) ?_
    replace hr := jnS hr
    obtain ⟨j74, hj74, hr⟩ := hr
    have Jj74 : ∀ (c74_g23 : Int32) (c74_g27 : Int32) (c74_g30 : Int32) (c74_g34 : Int32) (c74_g36 : Int32) (c74_g39 : Int32) (c74_F22 : (Nat → Int32)) (c74_F24 : (Nat → Int32)) (c74_F25 : (Nat → Int32)) (c74_F26 : (Nat → Int32)) (c74_F28 : (Nat → Int32)) (c74_F29 : (Nat → Int32)) (c74_F31 : (Nat → Int32)) (c74_F32 : (Nat → Int32)) (c74_F33 : (Nat → Int32)) (c74_F37 : (Nat → Int32)) (c74_F38 : (Nat → Int32)) (c74_F40 : (Nat → Int32)) (c74_F41 : (Nat → Int32)) (H : Heap) (locs : List Loc) (ls : Array Slot), j74 c74_g23 c74_g27 c74_g30 c74_g34 c74_g36 c74_g39 c74_F22 c74_F24 c74_F25 c74_F26 c74_F28 c74_F29 c74_F31 c74_F32 c74_F33 c74_F37 c74_F38 c74_F40 c74_F41 = some (r, c_g23, c_g27, c_g30, c_g34, c_g36, c_g39, c_g66, c_F22, c_F24, c_F25, c_F26, c_F28, c_F29, c_F31, c_F32, c_F33, c_F37, c_F38, c_F40, c_F41, c_F61, c_F64) → va_P (dC, dI) vwCl (mW h0 kB kI kZ q (upd (upd (upd (upd (upd (upd g 23 c74_g23) 27 c74_g27) 30 c74_g30) 34 c74_g34) 36 c74_g36) 39 c74_g39) (upF (upF (upF (upF (upF (upF (upF (upF (upF (upF (upF (upF (upF (upF F 22 c74_F22) 24 c74_F24) 25 c74_F25) 26 c74_F26) 28 c74_F28) 29 c74_F29) 31 c74_F31) 32 c74_F32) 33 c74_F33) 37 c74_F37) 38 c74_F38) 40 c74_F40) 41 c74_F41) 64 w41)) H → va_D A (mW h0 kB kI kZ q (upd (upd (upd (upd (upd (upd g 23 c74_g23) 27 c74_g27) 30 c74_g30) 34 c74_g34) 36 c74_g36) 39 c74_g39) (upF (upF (upF (upF (upF (upF (upF (upF (upF (upF (upF (upF (upF (upF F 22 c74_F22) 24 c74_F24) 25 c74_F25) 26 c74_F26) 28 c74_F28) 29 c74_F29) 31 c74_F31) 32 c74_F32) 33 c74_F33) 37 c74_F37) 38 c74_F38) 40 c74_F40) 41 c74_F41) 64 w41)) → va_S A s.heap H locs → lv_has ls 5 [(0, .ref h0), (1, .int p0), (2, .int p1)] → W p l e ({ frames := 47, cells := 0, slots := 0, locals := 1146 } : Room) s m args below meth c H locs 0 0 Q (F0 m 74 ls []) := by
      intro c74_g23 c74_g27 c74_g30 c74_g34 c74_g36 c74_g39 c74_F22 c74_F24 c74_F25 c74_F26 c74_F28 c74_F29 c74_F31 c74_F32 c74_F33 c74_F37 c74_F38 c74_F40 c74_F41 H locs ls hr hP hD hS hl
      rw [hj74] at hr
      refine lv_aload_n hx hb dX12_writeWord_74 rfl (lv_at hl 0 rfl) ?_
      refine va_get (D := (dC, dI)) (ci := 12) (v := .ref (q 64)) (C := RX12) (T := TX12) (N := 71) hx hb hts inX12 hown hK hP 0 rfl rfl 64 (by decide) (hts (.fieldLink RX12 140 "SpellTurnerModel" "newCounts" "[I") im_214) (fun _ h9 => h9) rfl dX12_writeWord_75 ?_
      refine lv_iconst (v := 2) hx hb dX12_writeWord_78 (by decide +kernel) ?_
      refine lv_dup2_11 hx hb dX12_writeWord_79 rfl rfl ?_
      replace hr := iteS hr
      obtain ⟨hi80, hr⟩ := hr
      refine va_iald (f := w41) hx hb hK hP 42 1 rfl rfl (inbV hi80) dX12_writeWord_80 ?_
      refine lv_aload_n hx hb dX12_writeWord_81 rfl (lv_at hl 0 rfl) ?_
      refine va_get (D := (dC, dI)) (ci := 12) (v := .int c74_g39) (C := RX12) (T := TX12) (N := 71) hx hb hts inX12 hown hK hP 0 rfl rfl 39 (by decide) (hts (.fieldLink RX12 287 "SpellTurnerModel" "nows" "I") im_176) (fun _ h9 => h9) rfl dX12_writeWord_82 ?_
      refine lv_iconst (v := 1) hx hb dX12_writeWord_85 (by decide +kernel) ?_
      replace hr := jnS hr
      obtain ⟨j94, hj94, hr⟩ := hr
      have Jj94 : ∀ (t94_0 : Int32) (H : Heap) (locs : List Loc) (ls : Array Slot), j94 t94_0 = some (r, c_g23, c_g27, c_g30, c_g34, c_g36, c_g39, c_g66, c_F22, c_F24, c_F25, c_F26, c_F28, c_F29, c_F31, c_F32, c_F33, c_F37, c_F38, c_F40, c_F41, c_F61, c_F64) → va_P (dC, dI) vwCl (mW h0 kB kI kZ q (upd (upd (upd (upd (upd (upd g 23 c74_g23) 27 c74_g27) 30 c74_g30) 34 c74_g34) 36 c74_g36) 39 c74_g39) (upF (upF (upF (upF (upF (upF (upF (upF (upF (upF (upF (upF (upF (upF F 22 c74_F22) 24 c74_F24) 25 c74_F25) 26 c74_F26) 28 c74_F28) 29 c74_F29) 31 c74_F31) 32 c74_F32) 33 c74_F33) 37 c74_F37) 38 c74_F38) 40 c74_F40) 41 c74_F41) 64 w41)) H → va_D A (mW h0 kB kI kZ q (upd (upd (upd (upd (upd (upd g 23 c74_g23) 27 c74_g27) 30 c74_g30) 34 c74_g34) 36 c74_g36) 39 c74_g39) (upF (upF (upF (upF (upF (upF (upF (upF (upF (upF (upF (upF (upF (upF F 22 c74_F22) 24 c74_F24) 25 c74_F25) 26 c74_F26) 28 c74_F28) 29 c74_F29) 31 c74_F31) 32 c74_F32) 33 c74_F33) 37 c74_F37) 38 c74_F38) 40 c74_F40) 41 c74_F41) 64 w41)) → va_S A s.heap H locs → lv_has ls 5 [(0, .ref h0), (1, .int p0), (2, .int p1)] → W p l e ({ frames := 47, cells := 0, slots := 0, locals := 1146 } : Room) s m args below meth c H locs 0 0 Q (F0 m 94 ls [.int t94_0, .int (w41 (Int32.toNatClampNeg 2)), .int 2, .ref (q 64)]) := by
        intro t94_0 H locs ls hr hP hD hS hl
        rw [hj94] at hr
        refine lv_iadd hx hb dX12_writeWord_94 ?_
        replace hr := iteS hr
        obtain ⟨hi95, hr⟩ := hr
        refine va_iast (f := w41) hx hb hK hP hD hS 42 1 rfl rfl (inbV hi95) dX12_writeWord_95 (fun H locs hP hD hS => ?_)
        obtain ⟨w95, ew95, hP, hD⟩ : ∃ w95 : Nat → Int32, w95 = (upd w41 (Int32.toNatClampNeg 2) ((w41 (Int32.toNatClampNeg 2)) + t94_0)) ∧ va_P (dC, dI) vwCl (mW h0 kB kI kZ q (upd (upd (upd (upd (upd (upd g 23 c74_g23) 27 c74_g27) 30 c74_g30) 34 c74_g34) 36 c74_g36) 39 c74_g39) (upF (upF (upF (upF (upF (upF (upF (upF (upF (upF (upF (upF (upF (upF F 22 c74_F22) 24 c74_F24) 25 c74_F25) 26 c74_F26) 28 c74_F28) 29 c74_F29) 31 c74_F31) 32 c74_F32) 33 c74_F33) 37 c74_F37) 38 c74_F38) 40 c74_F40) 41 c74_F41) 64 w95)) H ∧ va_D A (mW h0 kB kI kZ q (upd (upd (upd (upd (upd (upd g 23 c74_g23) 27 c74_g27) 30 c74_g30) 34 c74_g34) 36 c74_g36) 39 c74_g39) (upF (upF (upF (upF (upF (upF (upF (upF (upF (upF (upF (upF (upF (upF F 22 c74_F22) 24 c74_F24) 25 c74_F25) 26 c74_F26) 28 c74_F28) 29 c74_F29) 31 c74_F31) 32 c74_F32) 33 c74_F33) 37 c74_F37) 38 c74_F38) 40 c74_F40) 41 c74_F41) 64 w95)) := ⟨(upd w41 (Int32.toNatClampNeg 2) ((w41 (Int32.toNatClampNeg 2)) + t94_0)), rfl, by first | exact sP_F64 hP upF_same | exact sP_F64 hP rfl | exact hP, by first | exact sD_F64 hD upF_same | exact sD_F64 hD rfl | exact hD⟩
        replace hr := vlS hr w95 ew95
        clear ew95
        refine lv_aload_n hx hb dX12_writeWord_96 rfl (lv_at hl 0 rfl) ?_
        refine va_get (D := (dC, dI)) (ci := 12) (v := .ref (q 64)) (C := RX12) (T := TX12) (N := 71) hx hb hts inX12 hown hK hP 0 rfl rfl 64 (by decide) (hts (.fieldLink RX12 140 "SpellTurnerModel" "newCounts" "[I") im_214) (fun _ h9 => h9) rfl dX12_writeWord_97 ?_
        refine lv_iconst (v := 3) hx hb dX12_writeWord_100 (by decide +kernel) ?_
        refine lv_dup2_11 hx hb dX12_writeWord_101 rfl rfl ?_
        replace hr := iteS hr
        obtain ⟨hi102, hr⟩ := hr
        refine va_iald (f := w95) hx hb hK hP 42 1 rfl rfl (inbV hi102) dX12_writeWord_102 ?_
        refine lv_aload_n hx hb dX12_writeWord_103 rfl (lv_at hl 0 rfl) ?_
        refine va_get (D := (dC, dI)) (ci := 12) (v := .int c74_g39) (C := RX12) (T := TX12) (N := 71) hx hb hts inX12 hown hK hP 0 rfl rfl 39 (by decide) (hts (.fieldLink RX12 287 "SpellTurnerModel" "nows" "I") im_176) (fun _ h9 => h9) rfl dX12_writeWord_104 ?_
        replace hr := jnS hr
        obtain ⟨j115, hj115, hr⟩ := hr
        have Jj115 : ∀ (t115_0 : Int32) (H : Heap) (locs : List Loc) (ls : Array Slot), j115 t115_0 = some (r, c_g23, c_g27, c_g30, c_g34, c_g36, c_g39, c_g66, c_F22, c_F24, c_F25, c_F26, c_F28, c_F29, c_F31, c_F32, c_F33, c_F37, c_F38, c_F40, c_F41, c_F61, c_F64) → va_P (dC, dI) vwCl (mW h0 kB kI kZ q (upd (upd (upd (upd (upd (upd g 23 c74_g23) 27 c74_g27) 30 c74_g30) 34 c74_g34) 36 c74_g36) 39 c74_g39) (upF (upF (upF (upF (upF (upF (upF (upF (upF (upF (upF (upF (upF (upF F 22 c74_F22) 24 c74_F24) 25 c74_F25) 26 c74_F26) 28 c74_F28) 29 c74_F29) 31 c74_F31) 32 c74_F32) 33 c74_F33) 37 c74_F37) 38 c74_F38) 40 c74_F40) 41 c74_F41) 64 w95)) H → va_D A (mW h0 kB kI kZ q (upd (upd (upd (upd (upd (upd g 23 c74_g23) 27 c74_g27) 30 c74_g30) 34 c74_g34) 36 c74_g36) 39 c74_g39) (upF (upF (upF (upF (upF (upF (upF (upF (upF (upF (upF (upF (upF (upF F 22 c74_F22) 24 c74_F24) 25 c74_F25) 26 c74_F26) 28 c74_F28) 29 c74_F29) 31 c74_F31) 32 c74_F32) 33 c74_F33) 37 c74_F37) 38 c74_F38) 40 c74_F40) 41 c74_F41) 64 w95)) → va_S A s.heap H locs → lv_has ls 5 [(0, .ref h0), (1, .int p0), (2, .int p1)] → W p l e ({ frames := 47, cells := 0, slots := 0, locals := 1146 } : Room) s m args below meth c H locs 0 0 Q (F0 m 115 ls [.int t115_0, .int (w95 (Int32.toNatClampNeg 3)), .int 3, .ref (q 64)]) := by
          intro t115_0 H locs ls hr hP hD hS hl
          rw [hj115] at hr
          refine lv_iadd hx hb dX12_writeWord_115 ?_
          replace hr := iteS hr
          obtain ⟨hi116, hr⟩ := hr
          refine va_iast (f := w95) hx hb hK hP hD hS 42 1 rfl rfl (inbV hi116) dX12_writeWord_116 (fun H locs hP hD hS => ?_)
          obtain ⟨w116, ew116, hP, hD⟩ : ∃ w116 : Nat → Int32, w116 = (upd w95 (Int32.toNatClampNeg 3) ((w95 (Int32.toNatClampNeg 3)) + t115_0)) ∧ va_P (dC, dI) vwCl (mW h0 kB kI kZ q (upd (upd (upd (upd (upd (upd g 23 c74_g23) 27 c74_g27) 30 c74_g30) 34 c74_g34) 36 c74_g36) 39 c74_g39) (upF (upF (upF (upF (upF (upF (upF (upF (upF (upF (upF (upF (upF (upF F 22 c74_F22) 24 c74_F24) 25 c74_F25) 26 c74_F26) 28 c74_F28) 29 c74_F29) 31 c74_F31) 32 c74_F32) 33 c74_F33) 37 c74_F37) 38 c74_F38) 40 c74_F40) 41 c74_F41) 64 w116)) H ∧ va_D A (mW h0 kB kI kZ q (upd (upd (upd (upd (upd (upd g 23 c74_g23) 27 c74_g27) 30 c74_g30) 34 c74_g34) 36 c74_g36) 39 c74_g39) (upF (upF (upF (upF (upF (upF (upF (upF (upF (upF (upF (upF (upF (upF F 22 c74_F22) 24 c74_F24) 25 c74_F25) 26 c74_F26) 28 c74_F28) 29 c74_F29) 31 c74_F31) 32 c74_F32) 33 c74_F33) 37 c74_F37) 38 c74_F38) 40 c74_F40) 41 c74_F41) 64 w116)) := ⟨(upd w95 (Int32.toNatClampNeg 3) ((w95 (Int32.toNatClampNeg 3)) + t115_0)), rfl, by first | exact sP_F64 hP upF_same | exact sP_F64 hP rfl | exact hP, by first | exact sD_F64 hD upF_same | exact sD_F64 hD rfl | exact hD⟩
          replace hr := vlS hr w116 ew116
          clear ew116
          refine lv_aload_n hx hb dX12_writeWord_117 rfl (lv_at hl 0 rfl) ?_
          refine va_get (D := (dC, dI)) (ci := 12) (v := .int c74_g39) (C := RX12) (T := TX12) (N := 71) hx hb hts inX12 hown hK hP 0 rfl rfl 39 (by decide) (hts (.fieldLink RX12 287 "SpellTurnerModel" "nows" "I") im_176) (fun _ h9 => h9) rfl dX12_writeWord_118 ?_
          refine lv_if_ne (tgt := 137) hx hb dX12_writeWord_121 (by decide) (fun c121 => ?_) (fun c121 => ?_)
          · replace hr := iteF c121 hr
            refine lv_aload_n hx hb dX12_writeWord_137 rfl (lv_at hl 0 rfl) ?_
            refine va_get (D := (dC, dI)) (ci := 12) (v := .ref (q 64)) (C := RX12) (T := TX12) (N := 71) hx hb hts inX12 hown hK hP 0 rfl rfl 64 (by decide) (hts (.fieldLink RX12 140 "SpellTurnerModel" "newCounts" "[I") im_214) (fun _ h9 => h9) rfl dX12_writeWord_138 ?_
            refine lv_iconst (v := 1) hx hb dX12_writeWord_141 (by decide +kernel) ?_
            refine lv_dup2_11 hx hb dX12_writeWord_142 rfl rfl ?_
            replace hr := iteS hr
            obtain ⟨hi143, hr⟩ := hr
            refine va_iald (f := w116) hx hb hK hP 42 1 rfl rfl (inbV hi143) dX12_writeWord_143 ?_
            refine lv_aload_n hx hb dX12_writeWord_144 rfl (lv_at hl 0 rfl) ?_
            refine va_get (D := (dC, dI)) (ci := 12) (v := .ref (q 37)) (C := RX12) (T := TX12) (N := 71) hx hb hts inX12 hown hK hP 0 rfl rfl 37 (by decide) (hts (.fieldLink RX12 82 "SpellTurnerModel" "now" "[B") im_178) (fun _ h9 => h9) rfl dX12_writeWord_145 ?_
            refine lv_iconst (v := 0) hx hb dX12_writeWord_148 (by decide +kernel) ?_
            refine lv_aload_n hx hb dX12_writeWord_149 rfl (lv_at hl 0 rfl) ?_
            refine va_get (D := (dC, dI)) (ci := 12) (v := .ref (q 38)) (C := RX12) (T := TX12) (N := 71) hx hb hts inX12 hown hK hP 0 rfl rfl 38 (by decide) (hts (.fieldLink RX12 85 "SpellTurnerModel" "nowSize" "[I") im_175) (fun _ h9 => h9) rfl dX12_writeWord_150 ?_
            refine lv_iconst (v := 0) hx hb dX12_writeWord_153 (by decide +kernel) ?_
            replace hr := iteS hr
            obtain ⟨hi154, hr⟩ := hr
            refine va_iald (f := c74_F38) hx hb hK hP 24 1 rfl rfl (inbV hi154) dX12_writeWord_154 ?_
            refine lv_aload_n hx hb dX12_writeWord_155 rfl (lv_at hl 0 rfl) ?_
            refine va_get (D := (dC, dI)) (ci := 12) (v := .ref (q 0)) (C := RX12) (T := TX12) (N := 71) hx hb hts inX12 hown hK hP 0 rfl rfl 0 (by decide) (hts (.fieldLink RX12 7 "SpellTurnerModel" "tape" "[B") im_34) (fun _ h9 => h9) rfl dX12_writeWord_156 ?_
            refine lv_iload_n hx hb dX12_writeWord_159 rfl (lv_at hl 1 rfl) ?_
            refine lv_iload_n hx hb dX12_writeWord_160 rfl (lv_at hl 2 rfl) ?_
            refine lv_iload_n hx hb dX12_writeWord_161 rfl (lv_at hl 1 rfl) ?_
            refine lv_isub hx hb dX12_writeWord_162 ?_
            replace hr := b1S hr
            obtain ⟨r163z, hc163, hr⟩ := hr
            have hFc := fr_all hD hS hA
            refine va_calli (va_runS (As := [.ref (q 37), .int 0, .int (c74_F38 (Int32.toNatClampNeg 0)), .ref (q 0), .int p0, .int (p1 - p0)]) (rest := [.int (w116 (Int32.toNatClampNeg 1)), .int 1, .ref (q 64)]) ⟨hx, hb, hml, hown, hts⟩ (m_sameBytes_37_0 l dC dI H.size h0 kB kI kZ q (upd (upd (upd (upd (upd (upd g 23 c74_g23) 27 c74_g27) 30 c74_g30) 34 c74_g34) 36 c74_g36) 39 c74_g39) (upF (upF (upF (upF (upF (upF (upF (upF (upF (upF (upF (upF (upF (upF F 22 c74_F22) 24 c74_F24) 25 c74_F25) 26 c74_F26) 28 c74_F28) 29 c74_F29) 31 c74_F31) 32 c74_F32) 33 c74_F33) 37 c74_F37) 38 c74_F38) 40 c74_F40) 41 c74_F41) 64 w116) 0 (c74_F38 (Int32.toNatClampNeg 0)) p0 (p1 - p0) r163z hc163) (va_cwS 6 hts gw_X12_sameBytes_273 rfl rfl rfl (by decide +kernel) ⟨Nat.le_of_ble_eq_true rfl, Nat.le_of_ble_eq_true rfl⟩) ⟨fun a U g mk q => by obtain ⟨q0, q1, qP, qK, qD⟩ := q; exact ⟨q0, q1, qP, va_K.moved (u := U) (U := U.calling g mk a) (Vm.Alike.refl U.vm) qK, qD⟩, fun U hU hW => ⟨rfl, by rw [hU], by rw [hU]; exact hP, va_K.moved hW.alike hK, hD.weaken (fun _ _ _ _ => trivial)⟩⟩ rfl rfl hl.1 rfl (lv_room (Nat.le_of_ble_eq_true rfl)) dX12_writeWord_163 ⟨Nat.le_of_ble_eq_true rfl, Nat.le_of_ble_eq_true rfl⟩) hS (fun q _ h => hFc q h) hFc (fun r163 u t H1 locs ht hvm hw hB hz1 hk1 hS => ?_)
            replace hw : r163 = r163z := hw
            subst hw
            obtain ⟨hP1, hK1, hD1⟩ := hB
            rw [ht] at hP1
            obtain ⟨hP, hD⟩ := jn_all (w1 := (mW h0 kB kI kZ q (upd (upd (upd (upd (upd (upd g 23 c74_g23) 27 c74_g27) 30 c74_g30) 34 c74_g34) 36 c74_g36) 39 c74_g39) (upF (upF (upF (upF (upF (upF (upF (upF (upF (upF (upF (upF (upF (upF F 22 c74_F22) 24 c74_F24) 25 c74_F25) 26 c74_F26) 28 c74_F28) 29 c74_F29) 31 c74_F31) 32 c74_F32) 33 c74_F33) 37 c74_F37) 38 c74_F38) 40 c74_F40) 41 c74_F41) 64 w116))) hFc hP1 hD1
            clear hFc hP1 hK1 hD1 hk1 hz1 ht hvm
            generalize H1 = H at hP hS ⊢
            have hP : va_P (dC, dI) vwCl (mW h0 kB kI kZ q (upd (upd (upd (upd (upd (upd g 23 c74_g23) 27 c74_g27) 30 c74_g30) 34 c74_g34) 36 c74_g36) 39 c74_g39) (upF (upF (upF (upF (upF (upF (upF (upF (upF (upF (upF (upF (upF (upF F 22 c74_F22) 24 c74_F24) 25 c74_F25) 26 c74_F26) 28 c74_F28) 29 c74_F29) 31 c74_F31) 32 c74_F32) 33 c74_F33) 37 c74_F37) 38 c74_F38) 40 c74_F40) 41 c74_F41) 64 w116)) H := hP
            have hD : va_D A (mW h0 kB kI kZ q (upd (upd (upd (upd (upd (upd g 23 c74_g23) 27 c74_g27) 30 c74_g30) 34 c74_g34) 36 c74_g36) 39 c74_g39) (upF (upF (upF (upF (upF (upF (upF (upF (upF (upF (upF (upF (upF (upF F 22 c74_F22) 24 c74_F24) 25 c74_F25) 26 c74_F26) 28 c74_F28) 29 c74_F29) 31 c74_F31) 32 c74_F32) 33 c74_F33) 37 c74_F37) 38 c74_F38) 40 c74_F40) 41 c74_F41) 64 w116)) := hD
            replace hr := jnS hr
            obtain ⟨j174, hj174, hr⟩ := hr
            have Jj174 : ∀ (t174_0 : Int32) (H : Heap) (locs : List Loc) (ls : Array Slot), j174 t174_0 = some (r, c_g23, c_g27, c_g30, c_g34, c_g36, c_g39, c_g66, c_F22, c_F24, c_F25, c_F26, c_F28, c_F29, c_F31, c_F32, c_F33, c_F37, c_F38, c_F40, c_F41, c_F61, c_F64) → va_P (dC, dI) vwCl (mW h0 kB kI kZ q (upd (upd (upd (upd (upd (upd g 23 c74_g23) 27 c74_g27) 30 c74_g30) 34 c74_g34) 36 c74_g36) 39 c74_g39) (upF (upF (upF (upF (upF (upF (upF (upF (upF (upF (upF (upF (upF (upF F 22 c74_F22) 24 c74_F24) 25 c74_F25) 26 c74_F26) 28 c74_F28) 29 c74_F29) 31 c74_F31) 32 c74_F32) 33 c74_F33) 37 c74_F37) 38 c74_F38) 40 c74_F40) 41 c74_F41) 64 w116)) H → va_D A (mW h0 kB kI kZ q (upd (upd (upd (upd (upd (upd g 23 c74_g23) 27 c74_g27) 30 c74_g30) 34 c74_g34) 36 c74_g36) 39 c74_g39) (upF (upF (upF (upF (upF (upF (upF (upF (upF (upF (upF (upF (upF (upF F 22 c74_F22) 24 c74_F24) 25 c74_F25) 26 c74_F26) 28 c74_F28) 29 c74_F29) 31 c74_F31) 32 c74_F32) 33 c74_F33) 37 c74_F37) 38 c74_F38) 40 c74_F40) 41 c74_F41) 64 w116)) → va_S A s.heap H locs → lv_has ls 5 [(0, .ref h0)] → W p l e ({ frames := 47, cells := 0, slots := 0, locals := 1146 } : Room) s m args below meth c H locs 0 0 Q (F0 m 174 ls [.int t174_0, .int (w116 (Int32.toNatClampNeg 1)), .int 1, .ref (q 64)]) := by
              intro t174_0 H locs ls hr hP hD hS hl
              rw [hj174] at hr
              refine lv_iadd hx hb dX12_writeWord_174 ?_
              replace hr := iteS hr
              obtain ⟨hi175, hr⟩ := hr
              refine va_iast (f := w116) hx hb hK hP hD hS 42 1 rfl rfl (inbV hi175) dX12_writeWord_175 (fun H locs hP hD hS => ?_)
              obtain ⟨w175, ew175, hP, hD⟩ : ∃ w175 : Nat → Int32, w175 = (upd w116 (Int32.toNatClampNeg 1) ((w116 (Int32.toNatClampNeg 1)) + t174_0)) ∧ va_P (dC, dI) vwCl (mW h0 kB kI kZ q (upd (upd (upd (upd (upd (upd g 23 c74_g23) 27 c74_g27) 30 c74_g30) 34 c74_g34) 36 c74_g36) 39 c74_g39) (upF (upF (upF (upF (upF (upF (upF (upF (upF (upF (upF (upF (upF (upF F 22 c74_F22) 24 c74_F24) 25 c74_F25) 26 c74_F26) 28 c74_F28) 29 c74_F29) 31 c74_F31) 32 c74_F32) 33 c74_F33) 37 c74_F37) 38 c74_F38) 40 c74_F40) 41 c74_F41) 64 w175)) H ∧ va_D A (mW h0 kB kI kZ q (upd (upd (upd (upd (upd (upd g 23 c74_g23) 27 c74_g27) 30 c74_g30) 34 c74_g34) 36 c74_g36) 39 c74_g39) (upF (upF (upF (upF (upF (upF (upF (upF (upF (upF (upF (upF (upF (upF F 22 c74_F22) 24 c74_F24) 25 c74_F25) 26 c74_F26) 28 c74_F28) 29 c74_F29) 31 c74_F31) 32 c74_F32) 33 c74_F33) 37 c74_F37) 38 c74_F38) 40 c74_F40) 41 c74_F41) 64 w175)) := ⟨(upd w116 (Int32.toNatClampNeg 1) ((w116 (Int32.toNatClampNeg 1)) + t174_0)), rfl, by first | exact sP_F64 hP upF_same | exact sP_F64 hP rfl | exact hP, by first | exact sD_F64 hD upF_same | exact sD_F64 hD rfl | exact hD⟩
              replace hr := vlS hr w175 ew175
              clear ew175
              refine lv_aload_n hx hb dX12_writeWord_176 rfl (lv_at hl 0 rfl) ?_
              refine lv_aload_n hx hb dX12_writeWord_177 rfl (lv_at hl 0 rfl) ?_
              refine va_get (D := (dC, dI)) (ci := 12) (v := .ref (q 37)) (C := RX12) (T := TX12) (N := 71) hx hb hts inX12 hown hK hP 0 rfl rfl 37 (by decide) (hts (.fieldLink RX12 82 "SpellTurnerModel" "now" "[B") im_178) (fun _ h9 => h9) rfl dX12_writeWord_178 ?_
              refine lv_iconst (v := 0) hx hb dX12_writeWord_181 (by decide +kernel) ?_
              refine lv_aload_n hx hb dX12_writeWord_182 rfl (lv_at hl 0 rfl) ?_
              refine va_get (D := (dC, dI)) (ci := 12) (v := .ref (q 38)) (C := RX12) (T := TX12) (N := 71) hx hb hts inX12 hown hK hP 0 rfl rfl 38 (by decide) (hts (.fieldLink RX12 85 "SpellTurnerModel" "nowSize" "[I") im_175) (fun _ h9 => h9) rfl dX12_writeWord_183 ?_
              refine lv_iconst (v := 0) hx hb dX12_writeWord_186 (by decide +kernel) ?_
              replace hr := iteS hr
              obtain ⟨hi187, hr⟩ := hr
              refine va_iald (f := c74_F38) hx hb hK hP 24 1 rfl rfl (inbV hi187) dX12_writeWord_187 ?_
              replace hr := b3S hr
              obtain ⟨r188z, c188_g66, c188_F61, hc188, hr⟩ := hr
              have hFc := fr_all hD hS hA
              refine va_calli (va_runV (As := [.ref (q 37), .int 0, .int (c74_F38 (Int32.toNatClampNeg 0))]) (rest := []) ⟨hx, hb, hml, hown, hts⟩ (m_write1_37 l dC dI H.size h0 kB kI kZ q (upd (upd (upd (upd (upd (upd g 23 c74_g23) 27 c74_g27) 30 c74_g30) 34 c74_g34) 36 c74_g36) 39 c74_g39) (upF (upF (upF (upF (upF (upF (upF (upF (upF (upF (upF (upF (upF (upF F 22 c74_F22) 24 c74_F24) 25 c74_F25) 26 c74_F26) 28 c74_F28) 29 c74_F29) 31 c74_F31) 32 c74_F32) 33 c74_F33) 37 c74_F37) 38 c74_F38) 40 c74_F40) 41 c74_F41) 64 w175) 0 (c74_F38 (Int32.toNatClampNeg 0)) r188z c188_g66 c188_F61 hc188) (cwV 3 hts gw_X12_write1_344 rfl rfl rfl (by decide +kernel) ⟨Nat.le_of_ble_eq_true rfl, Nat.le_of_ble_eq_true rfl⟩) ⟨fun a U g mk q => by obtain ⟨q0, q1, qP, qK, qD⟩ := q; exact ⟨q0, q1, qP, va_K.moved (u := U) (U := U.calling g mk a) (Vm.Alike.refl U.vm) qK, qD⟩, va_recv hK hP (ci := 12) (q0 := 0) rfl rfl, fun U hU hW => ⟨rfl, by rw [hU], by rw [hU]; exact hP, va_K.moved hW.alike hK, hD.weaken (fun _ _ _ _ => trivial)⟩⟩ rfl rfl hl.1 rfl (lv_room (Nat.le_of_ble_eq_true rfl)) dX12_writeWord_188 ⟨Nat.le_of_ble_eq_true rfl, Nat.le_of_ble_eq_true rfl⟩) hS (fun q _ h => hFc q h) hFc (fun r188 u t H1 locs ht hvm hw hB hz1 hk1 hS => ?_)
              replace hw : r188 = r188z := hw
              subst hw
              obtain ⟨hP1, hK1, hD1⟩ := hB
              rw [ht] at hP1
              obtain ⟨hP, hD⟩ := jn_all (w1 := (mW h0 kB kI kZ q (upd (upd (upd (upd (upd (upd (upd g 23 c74_g23) 27 c74_g27) 30 c74_g30) 34 c74_g34) 36 c74_g36) 39 c74_g39) 66 c188_g66) (upF (upF (upF (upF (upF (upF (upF (upF (upF (upF (upF (upF (upF (upF (upF F 22 c74_F22) 24 c74_F24) 25 c74_F25) 26 c74_F26) 28 c74_F28) 29 c74_F29) 31 c74_F31) 32 c74_F32) 33 c74_F33) 37 c74_F37) 38 c74_F38) 40 c74_F40) 41 c74_F41) 61 c188_F61) 64 w175))) hFc hP1 hD1
              clear hFc hP1 hK1 hD1 hk1 hz1 ht hvm
              generalize H1 = H at hP hS ⊢
              have hP : va_P (dC, dI) vwCl (mW h0 kB kI kZ q (upd (upd (upd (upd (upd (upd (upd g 23 c74_g23) 27 c74_g27) 30 c74_g30) 34 c74_g34) 36 c74_g36) 39 c74_g39) 66 c188_g66) (upF (upF (upF (upF (upF (upF (upF (upF (upF (upF (upF (upF (upF (upF (upF F 22 c74_F22) 24 c74_F24) 25 c74_F25) 26 c74_F26) 28 c74_F28) 29 c74_F29) 31 c74_F31) 32 c74_F32) 33 c74_F33) 37 c74_F37) 38 c74_F38) 40 c74_F40) 41 c74_F41) 61 c188_F61) 64 w175)) H := hP
              have hD : va_D A (mW h0 kB kI kZ q (upd (upd (upd (upd (upd (upd (upd g 23 c74_g23) 27 c74_g27) 30 c74_g30) 34 c74_g34) 36 c74_g36) 39 c74_g39) 66 c188_g66) (upF (upF (upF (upF (upF (upF (upF (upF (upF (upF (upF (upF (upF (upF (upF F 22 c74_F22) 24 c74_F24) 25 c74_F25) 26 c74_F26) 28 c74_F28) 29 c74_F29) 31 c74_F31) 32 c74_F32) 33 c74_F33) 37 c74_F37) 38 c74_F38) 40 c74_F40) 41 c74_F41) 61 c188_F61) 64 w175)) := hD
              replace hr := iteS hr
              obtain ⟨hz191, hr⟩ := hr
              first | exact K 191 ls _ _ _ _ _ _ _ _ _ _ _ _ _ _ _ _ _ _ _ _ _ _ _ H _ hr hz191 dX12_writeWord_191 (sP_eq (mW_cg (by repeat (first | with_reducible rfl | with_reducible refine upd_cg ?_ | refine Eq.trans ?_ (upd_id rfl))) (by repeat (first | with_reducible rfl | with_reducible refine upF_cg ?_ | refine Eq.trans ?_ (upF_id rfl)))) hP) (sD_eq (mW_cg (by repeat (first | with_reducible rfl | with_reducible refine upd_cg ?_ | refine Eq.trans ?_ (upd_id rfl))) (by repeat (first | with_reducible rfl | with_reducible refine upF_cg ?_ | refine Eq.trans ?_ (upF_id rfl)))) hD) hS | exact K 191 ls _ _ _ _ _ _ _ _ _ _ _ _ _ _ _ _ _ _ _ _ _ _ _ H _ hr hz191 dX12_writeWord_191 hP hD hS
            refine lv_if_eq (tgt := 173) hx hb dX12_writeWord_166 (by decide) (fun c166 => ?_) (fun c166 => ?_)
            · replace hr := iteT c166 hr
              refine lv_iconst (v := 1) hx hb dX12_writeWord_173 (by decide +kernel) ?_
              exact Jj174 1 H _ ls hr hP hD hS (lv_sub hl [0] rfl)
            · replace hr := iteF c166 hr
              refine lv_iconst (v := 0) hx hb dX12_writeWord_169 (by decide +kernel) ?_
              refine lv_goto (tgt := 174) hx hb dX12_writeWord_170 (by decide) ?_
              exact Jj174 0 H _ ls hr hP hD hS (lv_sub hl [0] rfl)
          · replace hr := iteT c121 hr
            refine lv_aload_n hx hb dX12_writeWord_124 rfl (lv_at hl 0 rfl) ?_
            refine lv_aload_n hx hb dX12_writeWord_125 rfl (lv_at hl 0 rfl) ?_
            refine va_get (D := (dC, dI)) (ci := 12) (v := .ref (q 0)) (C := RX12) (T := TX12) (N := 71) hx hb hts inX12 hown hK hP 0 rfl rfl 0 (by decide) (hts (.fieldLink RX12 7 "SpellTurnerModel" "tape" "[B") im_34) (fun _ h9 => h9) rfl dX12_writeWord_126 ?_
            refine lv_iload_n hx hb dX12_writeWord_129 rfl (lv_at hl 1 rfl) ?_
            refine lv_iload_n hx hb dX12_writeWord_130 rfl (lv_at hl 2 rfl) ?_
            refine lv_iload_n hx hb dX12_writeWord_131 rfl (lv_at hl 1 rfl) ?_
            refine lv_isub hx hb dX12_writeWord_132 ?_
            replace hr := b3S hr
            obtain ⟨r133z, c133_g66, c133_F61, hc133, hr⟩ := hr
            have hFc := fr_all hD hS hA
            refine va_calli (va_runV (As := [.ref (q 0), .int p0, .int (p1 - p0)]) (rest := []) ⟨hx, hb, hml, hown, hts⟩ (m_write1_0 l dC dI H.size h0 kB kI kZ q (upd (upd (upd (upd (upd (upd g 23 c74_g23) 27 c74_g27) 30 c74_g30) 34 c74_g34) 36 c74_g36) 39 c74_g39) (upF (upF (upF (upF (upF (upF (upF (upF (upF (upF (upF (upF (upF (upF F 22 c74_F22) 24 c74_F24) 25 c74_F25) 26 c74_F26) 28 c74_F28) 29 c74_F29) 31 c74_F31) 32 c74_F32) 33 c74_F33) 37 c74_F37) 38 c74_F38) 40 c74_F40) 41 c74_F41) 64 w116) p0 (p1 - p0) r133z c133_g66 c133_F61 hc133) (cwV 3 hts gw_X12_write1_344 rfl rfl rfl (by decide +kernel) ⟨Nat.le_of_ble_eq_true rfl, Nat.le_of_ble_eq_true rfl⟩) ⟨fun a U g mk q => by obtain ⟨q0, q1, qP, qK, qD⟩ := q; exact ⟨q0, q1, qP, va_K.moved (u := U) (U := U.calling g mk a) (Vm.Alike.refl U.vm) qK, qD⟩, va_recv hK hP (ci := 12) (q0 := 0) rfl rfl, fun U hU hW => ⟨rfl, by rw [hU], by rw [hU]; exact hP, va_K.moved hW.alike hK, hD.weaken (fun _ _ _ _ => trivial)⟩⟩ rfl rfl hl.1 rfl (lv_room (Nat.le_of_ble_eq_true rfl)) dX12_writeWord_133 ⟨Nat.le_of_ble_eq_true rfl, Nat.le_of_ble_eq_true rfl⟩) hS (fun q _ h => hFc q h) hFc (fun r133 u t H1 locs ht hvm hw hB hz1 hk1 hS => ?_)
            replace hw : r133 = r133z := hw
            subst hw
            obtain ⟨hP1, hK1, hD1⟩ := hB
            rw [ht] at hP1
            obtain ⟨hP, hD⟩ := jn_all (w1 := (mW h0 kB kI kZ q (upd (upd (upd (upd (upd (upd (upd g 23 c74_g23) 27 c74_g27) 30 c74_g30) 34 c74_g34) 36 c74_g36) 39 c74_g39) 66 c133_g66) (upF (upF (upF (upF (upF (upF (upF (upF (upF (upF (upF (upF (upF (upF (upF F 22 c74_F22) 24 c74_F24) 25 c74_F25) 26 c74_F26) 28 c74_F28) 29 c74_F29) 31 c74_F31) 32 c74_F32) 33 c74_F33) 37 c74_F37) 38 c74_F38) 40 c74_F40) 41 c74_F41) 61 c133_F61) 64 w116))) hFc hP1 hD1
            clear hFc hP1 hK1 hD1 hk1 hz1 ht hvm
            generalize H1 = H at hP hS ⊢
            have hP : va_P (dC, dI) vwCl (mW h0 kB kI kZ q (upd (upd (upd (upd (upd (upd (upd g 23 c74_g23) 27 c74_g27) 30 c74_g30) 34 c74_g34) 36 c74_g36) 39 c74_g39) 66 c133_g66) (upF (upF (upF (upF (upF (upF (upF (upF (upF (upF (upF (upF (upF (upF (upF F 22 c74_F22) 24 c74_F24) 25 c74_F25) 26 c74_F26) 28 c74_F28) 29 c74_F29) 31 c74_F31) 32 c74_F32) 33 c74_F33) 37 c74_F37) 38 c74_F38) 40 c74_F40) 41 c74_F41) 61 c133_F61) 64 w116)) H := hP
            have hD : va_D A (mW h0 kB kI kZ q (upd (upd (upd (upd (upd (upd (upd g 23 c74_g23) 27 c74_g27) 30 c74_g30) 34 c74_g34) 36 c74_g36) 39 c74_g39) 66 c133_g66) (upF (upF (upF (upF (upF (upF (upF (upF (upF (upF (upF (upF (upF (upF (upF F 22 c74_F22) 24 c74_F24) 25 c74_F25) 26 c74_F26) 28 c74_F28) 29 c74_F29) 31 c74_F31) 32 c74_F32) 33 c74_F33) 37 c74_F37) 38 c74_F38) 40 c74_F40) 41 c74_F41) 61 c133_F61) 64 w116)) := hD
            replace hr := iteS hr
            obtain ⟨hz136, hr⟩ := hr
            first | exact K 136 ls _ _ _ _ _ _ _ _ _ _ _ _ _ _ _ _ _ _ _ _ _ _ _ H _ hr hz136 dX12_writeWord_136 (sP_eq (mW_cg (by repeat (first | with_reducible rfl | with_reducible refine upd_cg ?_ | refine Eq.trans ?_ (upd_id rfl))) (by repeat (first | with_reducible rfl | with_reducible refine upF_cg ?_ | refine Eq.trans ?_ (upF_id rfl)))) hP) (sD_eq (mW_cg (by repeat (first | with_reducible rfl | with_reducible refine upd_cg ?_ | refine Eq.trans ?_ (upd_id rfl))) (by repeat (first | with_reducible rfl | with_reducible refine upF_cg ?_ | refine Eq.trans ?_ (upF_id rfl)))) hD) hS | exact K 136 ls _ _ _ _ _ _ _ _ _ _ _ _ _ _ _ _ _ _ _ _ _ _ _ H _ hr hz136 dX12_writeWord_136 hP hD hS
        refine lv_if_ne (tgt := 114) hx hb dX12_writeWord_107 (by decide) (fun c107 => ?_) (fun c107 => ?_)
        · replace hr := iteF c107 hr
          refine lv_iconst (v := 0) hx hb dX12_writeWord_114 (by decide +kernel) ?_
          exact Jj115 0 H _ ls hr hP hD hS (lv_sub hl [0, 1, 2] rfl)
        · replace hr := iteT c107 hr
          refine lv_iconst (v := 1) hx hb dX12_writeWord_110 (by decide +kernel) ?_
          refine lv_goto (tgt := 115) hx hb dX12_writeWord_111 (by decide) ?_
          exact Jj115 1 H _ ls hr hP hD hS (lv_sub hl [0, 1, 2] rfl)
      refine lv_icmp_le (tgt := 93) hx hb dX12_writeWord_86 (by decide) (fun c86 => ?_) (fun c86 => ?_)
      · replace hr := iteT c86 hr
        refine lv_iconst (v := 0) hx hb dX12_writeWord_93 (by decide +kernel) ?_
        exact Jj94 0 H _ ls hr hP hD hS (lv_sub hl [0, 1, 2] rfl)
      · replace hr := iteF c86 hr
        refine lv_iconst (v := 1) hx hb dX12_writeWord_89 (by decide +kernel) ?_
        refine lv_goto (tgt := 94) hx hb dX12_writeWord_90 (by decide) ?_
        exact Jj94 1 H _ ls hr hP hD hS (lv_sub hl [0, 1, 2] rfl)
    refine lv_icmp_gt (tgt := 74) hx hb dX12_writeWord_52 (by decide) (fun c52 => ?_) (fun c52 => ?_)
    · replace hr := iteT c52 hr
      first | exact Jj74 (g 23) (g 27) (g 30) (g 34) (g 36) 0 (F 22) (F 24) (F 25) (F 26) (F 28) (F 29) (F 31) (F 32) (F 33) (F 37) (F 38) (F 40) (F 41) H _ ls hr (sP_eq (mW_cg (by repeat (first | with_reducible rfl | with_reducible refine upd_cg ?_ | refine Eq.trans ?_ (upd_id rfl))) (by repeat (first | with_reducible rfl | with_reducible refine upF_cg ?_ | refine Eq.trans ?_ (upF_id rfl)))) hP) (sD_eq (mW_cg (by repeat (first | with_reducible rfl | with_reducible refine upd_cg ?_ | refine Eq.trans ?_ (upd_id rfl))) (by repeat (first | with_reducible rfl | with_reducible refine upF_cg ?_ | refine Eq.trans ?_ (upF_id rfl)))) hD) hS (lv_sub hl [0, 1, 2] rfl) | exact Jj74 (g 23) (g 27) (g 30) (g 34) (g 36) 0 (F 22) (F 24) (F 25) (F 26) (F 28) (F 29) (F 31) (F 32) (F 33) (F 37) (F 38) (F 40) (F 41) H _ ls hr hP hD hS (lv_sub hl [0, 1, 2] rfl)
    · replace hr := iteF c52 hr
      refine lv_aload_n hx hb dX12_writeWord_55 rfl (lv_at hl 0 rfl) ?_
      refine lv_aload_n hx hb dX12_writeWord_56 rfl (lv_at hl 0 rfl) ?_
      refine va_get (D := (dC, dI)) (ci := 12) (v := .ref (q 0)) (C := RX12) (T := TX12) (N := 71) hx hb hts inX12 hown hK hP 0 rfl rfl 0 (by decide) (hts (.fieldLink RX12 7 "SpellTurnerModel" "tape" "[B") im_34) (fun _ h9 => h9) rfl dX12_writeWord_57 ?_
      refine lv_iload_n hx hb dX12_writeWord_60 rfl (lv_at hl 1 rfl) ?_
      refine lv_iload_n hx hb dX12_writeWord_61 rfl (lv_at hl 2 rfl) ?_
      refine lv_iload_n hx hb dX12_writeWord_62 rfl (lv_at hl 1 rfl) ?_
      refine lv_isub hx hb dX12_writeWord_63 ?_
      replace hr := b2S hr
      obtain ⟨c64_g23, c64_F22, hc64, hr⟩ := hr
      have hFc := fr_all hD hS hA
      refine va_callv (va_runV (As := [.ref (q 0), .int p0, .int (p1 - p0)]) (rest := []) ⟨hx, hb, hml, hown, hts⟩ (m_takeWord_0 l dC dI H.size h0 kB kI kZ q (upd g 39 0) (upF F 64 w41) p0 (p1 - p0) c64_g23 c64_F22 hc64) (cwV 3 hts gw_X12_takeWord_290 rfl rfl rfl (by decide +kernel) ⟨Nat.le_of_ble_eq_true rfl, Nat.le_of_ble_eq_true rfl⟩) ⟨fun a U g mk q => by obtain ⟨q0, q1, qP, qK, qD⟩ := q; exact ⟨q0, q1, qP, va_K.moved (u := U) (U := U.calling g mk a) (Vm.Alike.refl U.vm) qK, qD⟩, va_recv hK hP (ci := 12) (q0 := 0) rfl rfl, fun U hU hW => ⟨rfl, by rw [hU], by rw [hU]; exact hP, va_K.moved hW.alike hK, hD.weaken (fun _ _ _ _ => trivial)⟩⟩ rfl rfl hl.1 rfl (lv_room (Nat.le_of_ble_eq_true rfl)) dX12_writeWord_64 ⟨Nat.le_of_ble_eq_true rfl, Nat.le_of_ble_eq_true rfl⟩) hS (fun q _ h => hFc q h) hFc (fun u t H1 locs ht hvm hw hB hz1 hk1 hS => ?_)
      obtain ⟨hP1, hK1, hD1⟩ := hB
      rw [ht] at hP1
      obtain ⟨hP, hD⟩ := jn_all (w1 := (mW h0 kB kI kZ q (upd (upd g 23 c64_g23) 39 0) (upF (upF F 22 c64_F22) 64 w41))) hFc hP1 hD1
      clear hFc hP1 hK1 hD1 hk1 hz1 ht hvm
      generalize H1 = H at hP hS ⊢
      have hP : va_P (dC, dI) vwCl (mW h0 kB kI kZ q (upd (upd g 23 c64_g23) 39 0) (upF (upF F 22 c64_F22) 64 w41)) H := hP
      have hD : va_D A (mW h0 kB kI kZ q (upd (upd g 23 c64_g23) 39 0) (upF (upF F 22 c64_F22) 64 w41)) := hD
      refine lv_aload_n hx hb dX12_writeWord_67 rfl (lv_at hl 0 rfl) ?_
      refine lv_iload_n hx hb dX12_writeWord_68 rfl (lv_at hl 3 rfl) ?_
      refine lv_iload hx hb dX12_writeWord_69 (lv_at hl 4 rfl) ?_
      replace hr := b19S hr
      obtain ⟨c71_g23, c71_g27, c71_g30, c71_g34, c71_g36, c71_g39, c71_F22, c71_F24, c71_F25, c71_F26, c71_F28, c71_F29, c71_F31, c71_F32, c71_F33, c71_F37, c71_F38, c71_F40, c71_F41, hc71, hr⟩ := hr
      have hFc := fr_all hD hS hA
      refine va_callv (va_runV (As := [.int p2, .int p3]) (rest := []) ⟨hx, hb, hml, hown, hts⟩ (m_through l dC dI H.size h0 kB kI kZ q (upd (upd g 23 c64_g23) 39 0) (upF (upF F 22 c64_F22) 64 w41) p2 p3 c71_g23 c71_g27 c71_g30 c71_g34 c71_g36 c71_g39 c71_F22 c71_F24 c71_F25 c71_F26 c71_F28 c71_F29 c71_F31 c71_F32 c71_F33 c71_F37 c71_F38 c71_F40 c71_F41 hc71) (cwV 2 hts gw_X12_through_303 rfl rfl rfl (by decide +kernel) ⟨Nat.le_of_ble_eq_true rfl, Nat.le_of_ble_eq_true rfl⟩) ⟨fun a U g mk q => by obtain ⟨q0, q1, qP, qK, qD⟩ := q; exact ⟨q0, q1, qP, va_K.moved (u := U) (U := U.calling g mk a) (Vm.Alike.refl U.vm) qK, qD⟩, va_recv hK hP (ci := 12) (q0 := 0) rfl rfl, fun U hU hW => ⟨rfl, by rw [hU], by rw [hU]; exact hP, va_K.moved hW.alike hK, hD.weaken (fun _ _ _ _ => trivial)⟩⟩ rfl rfl hl.1 rfl (lv_room (Nat.le_of_ble_eq_true rfl)) dX12_writeWord_71 ⟨Nat.le_of_ble_eq_true rfl, Nat.le_of_ble_eq_true rfl⟩) hS (fun q _ h => hFc q h) hFc (fun u t H1 locs ht hvm hw hB hz1 hk1 hS => ?_)
      obtain ⟨hP1, hK1, hD1⟩ := hB
      rw [ht] at hP1
      obtain ⟨hP, hD⟩ := jn_all (w1 := (mW h0 kB kI kZ q (upd (upd (upd (upd (upd (upd g 23 c71_g23) 27 c71_g27) 30 c71_g30) 34 c71_g34) 36 c71_g36) 39 c71_g39) (upF (upF (upF (upF (upF (upF (upF (upF (upF (upF (upF (upF (upF (upF F 22 c71_F22) 24 c71_F24) 25 c71_F25) 26 c71_F26) 28 c71_F28) 29 c71_F29) 31 c71_F31) 32 c71_F32) 33 c71_F33) 37 c71_F37) 38 c71_F38) 40 c71_F40) 41 c71_F41) 64 w41))) hFc hP1 hD1
      clear hFc hP1 hK1 hD1 hk1 hz1 ht hvm
      generalize H1 = H at hP hS ⊢
      have hP : va_P (dC, dI) vwCl (mW h0 kB kI kZ q (upd (upd (upd (upd (upd (upd g 23 c71_g23) 27 c71_g27) 30 c71_g30) 34 c71_g34) 36 c71_g36) 39 c71_g39) (upF (upF (upF (upF (upF (upF (upF (upF (upF (upF (upF (upF (upF (upF F 22 c71_F22) 24 c71_F24) 25 c71_F25) 26 c71_F26) 28 c71_F28) 29 c71_F29) 31 c71_F31) 32 c71_F32) 33 c71_F33) 37 c71_F37) 38 c71_F38) 40 c71_F40) 41 c71_F41) 64 w41)) H := hP
      have hD : va_D A (mW h0 kB kI kZ q (upd (upd (upd (upd (upd (upd g 23 c71_g23) 27 c71_g27) 30 c71_g30) 34 c71_g34) 36 c71_g36) 39 c71_g39) (upF (upF (upF (upF (upF (upF (upF (upF (upF (upF (upF (upF (upF (upF F 22 c71_F22) 24 c71_F24) 25 c71_F25) 26 c71_F26) 28 c71_F28) 29 c71_F29) 31 c71_F31) 32 c71_F32) 33 c71_F33) 37 c71_F37) 38 c71_F38) 40 c71_F40) 41 c71_F41) 64 w41)) := hD
      exact Jj74 c71_g23 c71_g27 c71_g30 c71_g34 c71_g36 c71_g39 c71_F22 c71_F24 c71_F25 c71_F26 c71_F28 c71_F29 c71_F31 c71_F32 c71_F33 c71_F37 c71_F38 c71_F40 c71_F41 H _ ls hr hP hD hS (lv_sub hl [0, 1, 2] rfl)
  · replace hr := iteF c6 hr
    refine lv_aload_n hx hb dX12_writeWord_9 rfl (lv_at hl 0 rfl) ?_
    refine va_get (D := (dC, dI)) (ci := 12) (v := .ref (q 64)) (C := RX12) (T := TX12) (N := 71) hx hb hts inX12 hown hK hP 0 rfl rfl 64 (by decide) (hts (.fieldLink RX12 140 "SpellTurnerModel" "newCounts" "[I") im_214) (fun _ h9 => h9) rfl dX12_writeWord_10 ?_
    refine lv_iconst (v := 4) hx hb dX12_writeWord_13 (by decide +kernel) ?_
    refine lv_dup2_11 hx hb dX12_writeWord_14 rfl rfl ?_
    replace hr := iteS hr
    obtain ⟨hi15, hr⟩ := hr
    refine va_iald (f := (F 64)) hx hb hK hP 42 1 rfl rfl (inbV hi15) dX12_writeWord_15 ?_
    refine lv_iconst (v := 1) hx hb dX12_writeWord_16 (by decide +kernel) ?_
    refine lv_iadd hx hb dX12_writeWord_17 ?_
    replace hr := iteS hr
    obtain ⟨hi18, hr⟩ := hr
    refine va_iast (f := (F 64)) hx hb hK hP hD hS 42 1 rfl rfl (inbV hi18) dX12_writeWord_18 (fun H locs hP hD hS => ?_)
    obtain ⟨w18, ew18, hP, hD⟩ : ∃ w18 : Nat → Int32, w18 = (upd (F 64) (Int32.toNatClampNeg 4) (((F 64) (Int32.toNatClampNeg 4)) + 1)) ∧ va_P (dC, dI) vwCl (mW h0 kB kI kZ q g (upF F 64 w18)) H ∧ va_D A (mW h0 kB kI kZ q g (upF F 64 w18)) := ⟨(upd (F 64) (Int32.toNatClampNeg 4) (((F 64) (Int32.toNatClampNeg 4)) + 1)), rfl, by first | exact sP_F64 hP rfl | exact sP_F64 hP upF_same | exact hP, by first | exact sD_F64 hD rfl | exact sD_F64 hD upF_same | exact hD⟩
    replace hr := vlS hr w18 ew18
    clear ew18
    refine lv_aload_n hx hb dX12_writeWord_19 rfl (lv_at hl 0 rfl) ?_
    refine lv_aload_n hx hb dX12_writeWord_20 rfl (lv_at hl 0 rfl) ?_
    refine va_get (D := (dC, dI)) (ci := 12) (v := .ref (q 0)) (C := RX12) (T := TX12) (N := 71) hx hb hts inX12 hown hK hP 0 rfl rfl 0 (by decide) (hts (.fieldLink RX12 7 "SpellTurnerModel" "tape" "[B") im_34) (fun _ h9 => h9) rfl dX12_writeWord_21 ?_
    refine lv_iload_n hx hb dX12_writeWord_24 rfl (lv_at hl 1 rfl) ?_
    refine lv_iload_n hx hb dX12_writeWord_25 rfl (lv_at hl 2 rfl) ?_
    refine lv_iload_n hx hb dX12_writeWord_26 rfl (lv_at hl 1 rfl) ?_
    refine lv_isub hx hb dX12_writeWord_27 ?_
    replace hr := b3S hr
    obtain ⟨r28z, c28_g66, c28_F61, hc28, hr⟩ := hr
    have hFc := fr_all hD hS hA
    refine va_calli (va_runV (As := [.ref (q 0), .int p0, .int (p1 - p0)]) (rest := []) ⟨hx, hb, hml, hown, hts⟩ (m_write1_0 l dC dI H.size h0 kB kI kZ q g (upF F 64 w18) p0 (p1 - p0) r28z c28_g66 c28_F61 hc28) (cwV 3 hts gw_X12_write1_344 rfl rfl rfl (by decide +kernel) ⟨Nat.le_of_ble_eq_true rfl, Nat.le_of_ble_eq_true rfl⟩) ⟨fun a U g mk q => by obtain ⟨q0, q1, qP, qK, qD⟩ := q; exact ⟨q0, q1, qP, va_K.moved (u := U) (U := U.calling g mk a) (Vm.Alike.refl U.vm) qK, qD⟩, va_recv hK hP (ci := 12) (q0 := 0) rfl rfl, fun U hU hW => ⟨rfl, by rw [hU], by rw [hU]; exact hP, va_K.moved hW.alike hK, hD.weaken (fun _ _ _ _ => trivial)⟩⟩ rfl rfl hl.1 rfl (lv_room (Nat.le_of_ble_eq_true rfl)) dX12_writeWord_28 ⟨Nat.le_of_ble_eq_true rfl, Nat.le_of_ble_eq_true rfl⟩) hS (fun q _ h => hFc q h) hFc (fun r28 u t H1 locs ht hvm hw hB hz1 hk1 hS => ?_)
    replace hw : r28 = r28z := hw
    subst hw
    obtain ⟨hP1, hK1, hD1⟩ := hB
    rw [ht] at hP1
    obtain ⟨hP, hD⟩ := jn_all (w1 := (mW h0 kB kI kZ q (upd g 66 c28_g66) (upF (upF F 61 c28_F61) 64 w18))) hFc hP1 hD1
    clear hFc hP1 hK1 hD1 hk1 hz1 ht hvm
    generalize H1 = H at hP hS ⊢
    have hP : va_P (dC, dI) vwCl (mW h0 kB kI kZ q (upd g 66 c28_g66) (upF (upF F 61 c28_F61) 64 w18)) H := hP
    have hD : va_D A (mW h0 kB kI kZ q (upd g 66 c28_g66) (upF (upF F 61 c28_F61) 64 w18)) := hD
    replace hr := iteS hr
    obtain ⟨hz31, hr⟩ := hr
    first | exact K 31 ls _ _ _ _ _ _ _ _ _ _ _ _ _ _ _ _ _ _ _ _ _ _ _ H _ hr hz31 dX12_writeWord_31 (sP_eq (mW_cg (by repeat (first | with_reducible rfl | with_reducible refine upd_cg ?_ | refine Eq.trans ?_ (upd_id rfl))) (by repeat (first | with_reducible rfl | with_reducible refine upF_cg ?_ | refine Eq.trans ?_ (upF_id rfl)))) hP) (sD_eq (mW_cg (by repeat (first | with_reducible rfl | with_reducible refine upd_cg ?_ | refine Eq.trans ?_ (upd_id rfl))) (by repeat (first | with_reducible rfl | with_reducible refine upF_cg ?_ | refine Eq.trans ?_ (upF_id rfl)))) hD) hS | exact K 31 ls _ _ _ _ _ _ _ _ _ _ _ _ _ _ _ _ _ _ _ _ _ _ _ H _ hr hz31 dX12_writeWord_31 hP hD hS
set_option maxHeartbeats 4000000 in
set_option maxRecDepth 100000 in
theorem m_writeWord (l : Launch) (dC : Nat → ClassId) (dI : Nat → Nat → Nat) (sz : Nat) (h0 : Nat) (kB kI kZ : ClassId) (q : Nat → Nat) (g : Nat → Int32) (F : Nat → Nat → Int32) (p0 : Int32) (p1 : Int32) (p2 : Int32) (p3 : Int32) (r : Int32) (c_g23 : Int32) (c_g27 : Int32) (c_g30 : Int32) (c_g34 : Int32) (c_g36 : Int32) (c_g39 : Int32) (c_g66 : Int32) (c_F22 : (Nat → Int32)) (c_F24 : (Nat → Int32)) (c_F25 : (Nat → Int32)) (c_F26 : (Nat → Int32)) (c_F28 : (Nat → Int32)) (c_F29 : (Nat → Int32)) (c_F31 : (Nat → Int32)) (c_F32 : (Nat → Int32)) (c_F33 : (Nat → Int32)) (c_F37 : (Nat → Int32)) (c_F38 : (Nat → Int32)) (c_F40 : (Nat → Int32)) (c_F41 : (Nat → Int32)) (c_F61 : (Nat → Int32)) (c_F64 : (Nat → Int32)) (hr : f_writeWord g F p0 p1 p2 p3 = some (r, c_g23, c_g27, c_g30, c_g34, c_g36, c_g39, c_g66, c_F22, c_F24, c_F25, c_F26, c_F28, c_F29, c_F31, c_F32, c_F33, c_F37, c_F38, c_F40, c_F41, c_F61, c_F64)) : Met l yX12_writeWord vmX12_writeWord ({ frames := 47, cells := 0, slots := 0, locals := 1146 } : Room) (va_Pc [.ref h0, .int p0, .int p1, .int p2, .int p3] (fun U => U.heap.size = sz ∧ va_P (dC, dI) vwCl (mW h0 kB kI kZ q g F) U.heap ∧ va_K (dC, dI) vwCl (mT kB kI kZ) U ∧ va_D (fun _ => True) (mW h0 kB kI kZ q g F))) (va_Qi (fun (rz : Int32) (_ : Unit) => rz = r) (fun _ t => va_P (dC, dI) vwCl (mW h0 kB kI kZ q (upd (upd (upd (upd (upd (upd (upd g 23 c_g23) 27 c_g27) 30 c_g30) 34 c_g34) 36 c_g36) 39 c_g39) 66 c_g66) (upF (upF (upF (upF (upF (upF (upF (upF (upF (upF (upF (upF (upF (upF (upF F 22 c_F22) 24 c_F24) 25 c_F25) 26 c_F26) 28 c_F28) 29 c_F29) 31 c_F31) 32 c_F32) 33 c_F33) 37 c_F37) 38 c_F38) 40 c_F40) 41 c_F41) 61 c_F61) 64 c_F64)) t.heap ∧ va_K (dC, dI) vwCl (mT kB kI kZ) t ∧ va_D (va_A (mW h0 kB kI kZ q g F) sz) (mW h0 kB kI kZ q (upd (upd (upd (upd (upd (upd (upd g 23 c_g23) 27 c_g27) 30 c_g30) 34 c_g34) 36 c_g36) 39 c_g39) 66 c_g66) (upF (upF (upF (upF (upF (upF (upF (upF (upF (upF (upF (upF (upF (upF (upF F 22 c_F22) 24 c_F24) 25 c_F25) 26 c_F26) 28 c_F28) 29 c_F29) 31 c_F31) 32 c_F32) 33 c_F33) 37 c_F37) 38 c_F38) 40 c_F40) 41 c_F41) 61 c_F61) 64 c_F64))) (va_A (mW h0 kB kI kZ q g F) sz)) 0 0 (va_A (mW h0 kB kI kZ q g F) sz) := by
  refine Met.ofW (cc := cX12_writeWord) (maxL := 5) (ret := (some .boolean)) (by decide) rfl ?_
  intro p e s m args below meth c s₁ B hml hv
  obtain ⟨rfl, hsz, hP, hK, hD0⟩ := hv
  have hx := B.exec
  have hb := B.bytes
  have hrt := B.returns
  have hts := atoms_spec (ws := vmX12_writeWord) B.pre
  have hown : s.vm.findClass RX12 = some m.cls := findClass_of_methodNamed B.named
  subst hsz
  have hD := hD0.self (sz := s.heap.size)
  generalize hAe : va_A (mW h0 kB kI kZ q g F) s.heap.size = A at hD ⊢
  have hA : ∀ q : Nat, s.heap.size ≤ q → A q := fun q h => by rw [← hAe]; exact Or.inr h
  have hS : va_S A s.heap s.heap [] := va_S.rf
  have hl := lv_entry ([.ref h0, .int p0, .int p1, .int p2, .int p3]) (n := 5) (Nat.le_of_ble_eq_true rfl)
  rw [lg_entry_eq]
  generalize (lg_sl ([.ref h0, .int p0, .int p1, .int p2, .int p3]) ++ List.replicate (5 - (lg_sl ([.ref h0, .int p0, .int p1, .int p2, .int p3])).length) Slot.unset).toArray = ls at hl ⊢
  exact bm_writeWord p0 p1 p2 p3 r c_g23 c_g27 c_g30 c_g34 c_g36 c_g39 c_g66 c_F22 c_F24 c_F25 c_F26 c_F28 c_F29 c_F31 c_F32 c_F33 c_F37 c_F38 c_F40 c_F41 c_F61 c_F64 hr hx hb hml hown hts hA hK hP hD hS hl (fun pc ls rz c_g23z c_g27z c_g30z c_g34z c_g36z c_g39z c_g66z c_F22z c_F24z c_F25z c_F26z c_F28z c_F29z c_F31z c_F32z c_F33z c_F37z c_F38z c_F40z c_F41z c_F61z c_F64z H locs he hz hd hP hD hS => by cases he; exact W.zret (v := r) hx hb hrt (z_nb hz) (fun t ht hW => ⟨⟨r, (), rfl, rfl, by rw [ht]; exact hP, va_K.moved hW.alike hK, hD⟩, hS.F ht⟩) hS.2.2 hd)
set_option maxHeartbeats 4000000 in
set_option maxRecDepth 100000 in
theorem bm_write {p : Program} {l : Launch} {e : Env} {s : State} {m : MethodId} {args : Array Value} {below : List Frame} {meth : Method} {c : Code} {Q : State → Prop} {A : Nat → Prop} {dC : Nat → ClassId} {dI : Nat → Nat → Nat} {h0 : Nat} {kB kI kZ : ClassId} {q : Nat → Nat} {g : Nat → Int32} {F : Nat → Nat → Int32} {H : Heap} {locs : List Loc} {ls : Array Slot} (p0 : Int32) (p1 : Int32) (r : Int32) (c_g1 : Int32) (c_g23 : Int32) (c_g27 : Int32) (c_g30 : Int32) (c_g34 : Int32) (c_g36 : Int32) (c_g39 : Int32) (c_g62 : Int32) (c_g65 : Int32) (c_g66 : Int32) (c_F22 : (Nat → Int32)) (c_F24 : (Nat → Int32)) (c_F25 : (Nat → Int32)) (c_F26 : (Nat → Int32)) (c_F28 : (Nat → Int32)) (c_F29 : (Nat → Int32)) (c_F31 : (Nat → Int32)) (c_F32 : (Nat → Int32)) (c_F33 : (Nat → Int32)) (c_F37 : (Nat → Int32)) (c_F38 : (Nat → Int32)) (c_F40 : (Nat → Int32)) (c_F41 : (Nat → Int32)) (c_F60 : (Nat → Int32)) (c_F61 : (Nat → Int32)) (c_F63 : (Nat → Int32)) (c_F64 : (Nat → Int32)) (hr : f_write g F p0 p1 = some (r, c_g1, c_g23, c_g27, c_g30, c_g34, c_g36, c_g39, c_g62, c_g65, c_g66, c_F22, c_F24, c_F25, c_F26, c_F28, c_F29, c_F31, c_F32, c_F33, c_F37, c_F38, c_F40, c_F41, c_F60, c_F61, c_F63, c_F64)) (hx : p.tables.exec = Jvm.exec) (hb : c.code = cX12_write) (hml : c.maxLocals = 7) (hown : s.vm.findClass RX12 = some m.cls) (hts : ∀ w ∈ vmX12_write, w.before args s = true) (hA : ∀ q : Nat, s.heap.size ≤ q → A q) (hK : va_K (dC, dI) vwCl (mT kB kI kZ) s) (hP : va_P (dC, dI) vwCl (mW h0 kB kI kZ q g F) H) (hD : va_D A (mW h0 kB kI kZ q g F)) (hS : va_S A s.heap H locs) (hl : lv_has ls 7 [(0, .ref h0), (1, .int p0), (2, .int p1)])
    (K : ∀ (pc : Nat) (ls : Array Slot) (rz : Int32) (c_g1z : Int32) (c_g23z : Int32) (c_g27z : Int32) (c_g30z : Int32) (c_g34z : Int32) (c_g36z : Int32) (c_g39z : Int32) (c_g62z : Int32) (c_g65z : Int32) (c_g66z : Int32) (c_F22z : (Nat → Int32)) (c_F24z : (Nat → Int32)) (c_F25z : (Nat → Int32)) (c_F26z : (Nat → Int32)) (c_F28z : (Nat → Int32)) (c_F29z : (Nat → Int32)) (c_F31z : (Nat → Int32)) (c_F32z : (Nat → Int32)) (c_F33z : (Nat → Int32)) (c_F37z : (Nat → Int32)) (c_F38z : (Nat → Int32)) (c_F40z : (Nat → Int32)) (c_F41z : (Nat → Int32)) (c_F60z : (Nat → Int32)) (c_F61z : (Nat → Int32)) (c_F63z : (Nat → Int32)) (c_F64z : (Nat → Int32)) (H : Heap) (locs : List Loc), some (rz, c_g1z, c_g23z, c_g27z, c_g30z, c_g34z, c_g36z, c_g39z, c_g62z, c_g65z, c_g66z, c_F22z, c_F24z, c_F25z, c_F26z, c_F28z, c_F29z, c_F31z, c_F32z, c_F33z, c_F37z, c_F38z, c_F40z, c_F41z, c_F60z, c_F61z, c_F63z, c_F64z) = some (r, c_g1, c_g23, c_g27, c_g30, c_g34, c_g36, c_g39, c_g62, c_g65, c_g66, c_F22, c_F24, c_F25, c_F26, c_F28, c_F29, c_F31, c_F32, c_F33, c_F37, c_F38, c_F40, c_F41, c_F60, c_F61, c_F63, c_F64) → decode cX12_write pc = .ok (.ireturn, 1) → va_P (dC, dI) vwCl (mW h0 kB kI kZ q (upd (upd (upd (upd (upd (upd (upd (upd (upd (upd g 1 c_g1z) 23 c_g23z) 27 c_g27z) 30 c_g30z) 34 c_g34z) 36 c_g36z) 39 c_g39z) 62 c_g62z) 65 c_g65z) 66 c_g66z) (upF (upF (upF (upF (upF (upF (upF (upF (upF (upF (upF (upF (upF (upF (upF (upF (upF F 22 c_F22z) 24 c_F24z) 25 c_F25z) 26 c_F26z) 28 c_F28z) 29 c_F29z) 31 c_F31z) 32 c_F32z) 33 c_F33z) 37 c_F37z) 38 c_F38z) 40 c_F40z) 41 c_F41z) 60 c_F60z) 61 c_F61z) 63 c_F63z) 64 c_F64z)) H → va_D A (mW h0 kB kI kZ q (upd (upd (upd (upd (upd (upd (upd (upd (upd (upd g 1 c_g1z) 23 c_g23z) 27 c_g27z) 30 c_g30z) 34 c_g34z) 36 c_g36z) 39 c_g39z) 62 c_g62z) 65 c_g65z) 66 c_g66z) (upF (upF (upF (upF (upF (upF (upF (upF (upF (upF (upF (upF (upF (upF (upF (upF (upF F 22 c_F22z) 24 c_F24z) 25 c_F25z) 26 c_F26z) 28 c_F28z) 29 c_F29z) 31 c_F31z) 32 c_F32z) 33 c_F33z) 37 c_F37z) 38 c_F38z) 40 c_F40z) 41 c_F41z) 60 c_F60z) 61 c_F61z) 63 c_F63z) 64 c_F64z)) → va_S A s.heap H locs → W p l e ({ frames := 48, cells := 0, slots := 0, locals := 1170 } : Room) s m args below meth c H locs 0 0 Q (F0 m pc ls [.int rz])) : W p l e ({ frames := 48, cells := 0, slots := 0, locals := 1170 } : Room) s m args below meth c H locs 0 0 Q (F0 m 0 ls []) := by
  unfold f_write at hr
  refine lv_aload_n hx hb dX12_write_0 rfl (lv_at hl 0 rfl) ?_
  refine va_get (D := (dC, dI)) (ci := 12) (v := .int (g 1)) (C := RX12) (T := TX12) (N := 71) hx hb hts inX12 hown hK hP 0 rfl rfl 1 (by decide) (hts (.fieldLink RX12 152 "SpellTurnerModel" "taped" "I") im_45) (fun _ h9 => h9) rfl dX12_write_1 ?_
  refine lv_istore_n (lv' := [(3, .int (g 1)), (0, .ref h0), (1, .int p0), (2, .int p1)]) hx hb dX12_write_4 rfl hl (by decide) rfl (fun ls hl => ?_)
  refine lv_aload_n hx hb dX12_write_5 rfl (lv_at hl 1 rfl) ?_
  refine lv_iconst (v := 0) hx hb dX12_write_6 (by decide +kernel) ?_
  refine va_put (D := (dC, dI)) (ci := 12) (v := .int 0) (ty := .int) (C := RX12) (T := TX12) (N := 71) hx hb hts inX12 tyX12 tyX12_ok nmX12 hown hK hP hD hS 0 rfl rfl 1 (by decide) (hts (.fieldLink RX12 152 "SpellTurnerModel" "taped" "I") im_45) (fun _ h9 => h9) rfl (by decide +kernel) rfl rfl (Nat.le_of_ble_eq_true rfl) dX12_write_7 (fun H locs hP hD hS => ?_)
  have hP : va_P (dC, dI) vwCl (mW h0 kB kI kZ q (upd g 1 0) F) H := by first | exact sP_g1 hP rfl | exact sP_g1 hP upd_same | exact hP
  have hD : va_D A (mW h0 kB kI kZ q (upd g 1 0) F) := by first | exact sD_g1 hD rfl | exact sD_g1 hD upd_same | exact hD
  refine lv_aload_n hx hb dX12_write_10 rfl (lv_at hl 1 rfl) ?_
  refine lv_iload_n hx hb dX12_write_11 rfl (lv_at hl 2 rfl) ?_
  replace hr := b1S hr
  obtain ⟨r12z, hc12, hr⟩ := hr
  have hFc := fr_all hD hS hA
  refine va_calli (va_runV (As := [.int p0]) (rest := []) ⟨hx, hb, hml, hown, hts⟩ (m_isStage l dC dI H.size h0 kB kI kZ q (upd g 1 0) F p0 r12z hc12) (cwV 1 hts gw_X12_isStage_300 rfl rfl rfl (by decide +kernel) ⟨Nat.le_of_ble_eq_true rfl, Nat.le_of_ble_eq_true rfl⟩) ⟨fun a U g mk q => by obtain ⟨q0, q1, qP, qK, qD⟩ := q; exact ⟨q0, q1, qP, va_K.moved (u := U) (U := U.calling g mk a) (Vm.Alike.refl U.vm) qK, qD⟩, va_recv hK hP (ci := 12) (q0 := 0) rfl rfl, fun U hU hW => ⟨rfl, by rw [hU], by rw [hU]; exact hP, va_K.moved hW.alike hK, hD.weaken (fun _ _ _ _ => trivial)⟩⟩ rfl rfl hl.1 rfl (lv_room (Nat.le_of_ble_eq_true rfl)) dX12_write_12 ⟨Nat.le_of_ble_eq_true rfl, Nat.le_of_ble_eq_true rfl⟩) hS (fun q _ h => hFc q h) hFc (fun r12 u t H1 locs ht hvm hw hB hz1 hk1 hS => ?_)
  replace hw : r12 = r12z := hw
  subst hw
  obtain ⟨hP1, hK1, hD1⟩ := hB
  rw [ht] at hP1
  obtain ⟨hP, hD⟩ := jn_all (w1 := (mW h0 kB kI kZ q (upd g 1 0) F)) hFc hP1 hD1
  clear hFc hP1 hK1 hD1 hk1 hz1 ht hvm
  generalize H1 = H at hP hS ⊢
  have hP : va_P (dC, dI) vwCl (mW h0 kB kI kZ q (upd g 1 0) F) H := hP
  have hD : va_D A (mW h0 kB kI kZ q (upd g 1 0) F) := hD
  replace hr := jnS hr
  obtain ⟨j31, hj31, hr⟩ := hr
  have Jj31 : ∀ (H : Heap) (locs : List Loc) (ls : Array Slot), j31 () = some (r, c_g1, c_g23, c_g27, c_g30, c_g34, c_g36, c_g39, c_g62, c_g65, c_g66, c_F22, c_F24, c_F25, c_F26, c_F28, c_F29, c_F31, c_F32, c_F33, c_F37, c_F38, c_F40, c_F41, c_F60, c_F61, c_F63, c_F64) → va_P (dC, dI) vwCl (mW h0 kB kI kZ q (upd g 1 0) F) H → va_D A (mW h0 kB kI kZ q (upd g 1 0) F) → va_S A s.heap H locs → lv_has ls 7 [] → W p l e ({ frames := 48, cells := 0, slots := 0, locals := 1170 } : Room) s m args below meth c H locs 0 0 Q (F0 m 31 ls []) := by
    intro H locs ls hr hP hD hS hl
    rw [hj31] at hr
    refine lv_bipush (v := (-2)) hx hb dX12_write_31 (by decide +kernel) ?_
    first | exact K 33 ls _ _ _ _ _ _ _ _ _ _ _ _ _ _ _ _ _ _ _ _ _ _ _ _ _ _ _ _ H _ hr dX12_write_33 (sP_eq (mW_cg (by repeat (first | with_reducible rfl | with_reducible refine upd_cg ?_ | refine Eq.trans ?_ (upd_id rfl))) (by repeat (first | with_reducible rfl | with_reducible refine upF_cg ?_ | refine Eq.trans ?_ (upF_id rfl)))) hP) (sD_eq (mW_cg (by repeat (first | with_reducible rfl | with_reducible refine upd_cg ?_ | refine Eq.trans ?_ (upd_id rfl))) (by repeat (first | with_reducible rfl | with_reducible refine upF_cg ?_ | refine Eq.trans ?_ (upF_id rfl)))) hD) hS | exact K 33 ls _ _ _ _ _ _ _ _ _ _ _ _ _ _ _ _ _ _ _ _ _ _ _ _ _ _ _ _ H _ hr dX12_write_33 hP hD hS
  refine lv_if_eq (tgt := 31) hx hb dX12_write_15 (by decide) (fun c15 => ?_) (fun c15 => ?_)
  · replace hr := iteT c15 hr
    exact Jj31 H _ ls hr hP hD hS (lv_sub hl [] rfl)
  · replace hr := iteF c15 hr
    refine lv_aload_n hx hb dX12_write_18 rfl (lv_at hl 1 rfl) ?_
    refine lv_iload_n hx hb dX12_write_19 rfl (lv_at hl 3 rfl) ?_
    replace hr := b1S hr
    obtain ⟨r20z, hc20, hr⟩ := hr
    have hFc := fr_all hD hS hA
    refine va_calli (va_runV (As := [.int p1]) (rest := []) ⟨hx, hb, hml, hown, hts⟩ (m_isStage l dC dI H.size h0 kB kI kZ q (upd g 1 0) F p1 r20z hc20) (cwV 1 hts gw_X12_isStage_300 rfl rfl rfl (by decide +kernel) ⟨Nat.le_of_ble_eq_true rfl, Nat.le_of_ble_eq_true rfl⟩) ⟨fun a U g mk q => by obtain ⟨q0, q1, qP, qK, qD⟩ := q; exact ⟨q0, q1, qP, va_K.moved (u := U) (U := U.calling g mk a) (Vm.Alike.refl U.vm) qK, qD⟩, va_recv hK hP (ci := 12) (q0 := 0) rfl rfl, fun U hU hW => ⟨rfl, by rw [hU], by rw [hU]; exact hP, va_K.moved hW.alike hK, hD.weaken (fun _ _ _ _ => trivial)⟩⟩ rfl rfl hl.1 rfl (lv_room (Nat.le_of_ble_eq_true rfl)) dX12_write_20 ⟨Nat.le_of_ble_eq_true rfl, Nat.le_of_ble_eq_true rfl⟩) hS (fun q _ h => hFc q h) hFc (fun r20 u t H1 locs ht hvm hw hB hz1 hk1 hS => ?_)
    replace hw : r20 = r20z := hw
    subst hw
    obtain ⟨hP1, hK1, hD1⟩ := hB
    rw [ht] at hP1
    obtain ⟨hP, hD⟩ := jn_all (w1 := (mW h0 kB kI kZ q (upd g 1 0) F)) hFc hP1 hD1
    clear hFc hP1 hK1 hD1 hk1 hz1 ht hvm
    generalize H1 = H at hP hS ⊢
    have hP : va_P (dC, dI) vwCl (mW h0 kB kI kZ q (upd g 1 0) F) H := hP
    have hD : va_D A (mW h0 kB kI kZ q (upd g 1 0) F) := hD
    refine lv_if_eq (tgt := 31) hx hb dX12_write_23 (by decide) (fun c23 => ?_) (fun c23 => ?_)
    · replace hr := iteT c23 hr
      exact Jj31 H _ ls hr hP hD hS (lv_sub hl [] rfl)
    · replace hr := iteF c23 hr
      refine lv_iload_n hx hb dX12_write_26 rfl (lv_at hl 2 rfl) ?_
      refine lv_iload_n hx hb dX12_write_27 rfl (lv_at hl 3 rfl) ?_
      refine lv_icmp_le (tgt := 34) hx hb dX12_write_28 (by decide) (fun c28 => ?_) (fun c28 => ?_)
      · replace hr := iteT c28 hr
        refine lv_aload_n hx hb dX12_write_34 rfl (lv_at hl 1 rfl) ?_
        refine lv_iload_n hx hb dX12_write_35 rfl (lv_at hl 0 rfl) ?_
        replace hr := b1S hr
        obtain ⟨r36z, hc36, hr⟩ := hr
        have hFc := fr_all hD hS hA
        refine va_calli (va_runV (As := [.int (g 1)]) (rest := []) ⟨hx, hb, hml, hown, hts⟩ (m_hasNought l dC dI H.size h0 kB kI kZ q (upd g 1 0) F (g 1) r36z hc36) (cwV 1 hts gw_X12_hasNought_348 rfl rfl rfl (by decide +kernel) ⟨Nat.le_of_ble_eq_true rfl, Nat.le_of_ble_eq_true rfl⟩) ⟨fun a U g mk q => by obtain ⟨q0, q1, qP, qK, qD⟩ := q; exact ⟨q0, q1, qP, va_K.moved (u := U) (U := U.calling g mk a) (Vm.Alike.refl U.vm) qK, qD⟩, va_recv hK hP (ci := 12) (q0 := 0) rfl rfl, fun U hU hW => ⟨rfl, by rw [hU], by rw [hU]; exact hP, va_K.moved hW.alike hK, hD.weaken (fun _ _ _ _ => trivial)⟩⟩ rfl rfl hl.1 rfl (lv_room (Nat.le_of_ble_eq_true rfl)) dX12_write_36 ⟨Nat.le_of_ble_eq_true rfl, Nat.le_of_ble_eq_true rfl⟩) hS (fun q _ h => hFc q h) hFc (fun r36 u t H1 locs ht hvm hw hB hz1 hk1 hS => ?_)
        replace hw : r36 = r36z := hw
        subst hw
        obtain ⟨hP1, hK1, hD1⟩ := hB
        rw [ht] at hP1
        obtain ⟨hP, hD⟩ := jn_all (w1 := (mW h0 kB kI kZ q (upd g 1 0) F)) hFc hP1 hD1
        clear hFc hP1 hK1 hD1 hk1 hz1 ht hvm
        generalize H1 = H at hP hS ⊢
        have hP : va_P (dC, dI) vwCl (mW h0 kB kI kZ q (upd g 1 0) F) H := hP
        have hD : va_D A (mW h0 kB kI kZ q (upd g 1 0) F) := hD
        refine lv_if_eq (tgt := 44) hx hb dX12_write_39 (by decide) (fun c39 => ?_) (fun c39 => ?_)
        · replace hr := iteT c39 hr
          refine lv_aload_n hx hb dX12_write_44 rfl (lv_at hl 1 rfl) ?_
          refine lv_iconst (v := 0) hx hb dX12_write_45 (by decide +kernel) ?_
          refine va_put (D := (dC, dI)) (ci := 12) (v := .int 0) (ty := .int) (C := RX12) (T := TX12) (N := 71) hx hb hts inX12 tyX12 tyX12_ok nmX12 hown hK hP hD hS 0 rfl rfl 66 (by decide) (hts (.fieldLink RX12 337 "SpellTurnerModel" "drafted" "I") im_208) (fun _ h9 => h9) rfl (by decide +kernel) rfl rfl (Nat.le_of_ble_eq_true rfl) dX12_write_46 (fun H locs hP hD hS => ?_)
          have hP : va_P (dC, dI) vwCl (mW h0 kB kI kZ q (upd (upd g 1 0) 66 0) F) H := by first | exact sP_g66 hP rfl | exact sP_g66 hP upd_same | exact hP
          have hD : va_D A (mW h0 kB kI kZ q (upd (upd g 1 0) 66 0) F) := by first | exact sD_g66 hD rfl | exact sD_g66 hD upd_same | exact hD
          refine lv_iconst (v := 0) hx hb dX12_write_49 (by decide +kernel) ?_
          refine lv_istore (lv' := [(4, .int 0), (3, .int (g 1)), (0, .ref h0), (1, .int p0), (2, .int p1)]) hx hb dX12_write_50 hl (by decide) rfl (fun ls hl => ?_)
          replace hr := jnS hr
          obtain ⟨k72, hk72, hr⟩ := hr
          have Jk72 : ∀ (c72_F64 : (Nat → Int32)) (H : Heap) (locs : List Loc) (ls : Array Slot), k72 c72_F64 = some (r, c_g1, c_g23, c_g27, c_g30, c_g34, c_g36, c_g39, c_g62, c_g65, c_g66, c_F22, c_F24, c_F25, c_F26, c_F28, c_F29, c_F31, c_F32, c_F33, c_F37, c_F38, c_F40, c_F41, c_F60, c_F61, c_F63, c_F64) → va_P (dC, dI) vwCl (mW h0 kB kI kZ q (upd (upd g 1 0) 66 0) (upF F 64 c72_F64)) H → va_D A (mW h0 kB kI kZ q (upd (upd g 1 0) 66 0) (upF F 64 c72_F64)) → va_S A s.heap H locs → lv_has ls 7 [(0, .ref h0), (1, .int p0), (2, .int p1), (3, .int (g 1))] → W p l e ({ frames := 48, cells := 0, slots := 0, locals := 1170 } : Room) s m args below meth c H locs 0 0 Q (F0 m 72 ls []) := by
            intro c72_F64 H locs ls hr hP hD hS hl
            rw [hk72] at hr
            refine lv_iconst (v := 0) hx hb dX12_write_72 (by decide +kernel) ?_
            refine lv_istore (lv' := [(4, .int 0), (0, .ref h0), (1, .int p0), (2, .int p1), (3, .int (g 1))]) hx hb dX12_write_73 hl (by decide) rfl (fun ls hl => ?_)
            replace hr := jnS hr
            obtain ⟨k208, hk208, hr⟩ := hr
            have Jk208 : ∀ (c208_g23 : Int32) (c208_g27 : Int32) (c208_g30 : Int32) (c208_g34 : Int32) (c208_g36 : Int32) (c208_g39 : Int32) (c208_g66 : Int32) (c208_F22 : (Nat → Int32)) (c208_F24 : (Nat → Int32)) (c208_F25 : (Nat → Int32)) (c208_F26 : (Nat → Int32)) (c208_F28 : (Nat → Int32)) (c208_F29 : (Nat → Int32)) (c208_F31 : (Nat → Int32)) (c208_F32 : (Nat → Int32)) (c208_F33 : (Nat → Int32)) (c208_F37 : (Nat → Int32)) (c208_F38 : (Nat → Int32)) (c208_F40 : (Nat → Int32)) (c208_F41 : (Nat → Int32)) (c208_F61 : (Nat → Int32)) (c208_F64 : (Nat → Int32)) (H : Heap) (locs : List Loc) (ls : Array Slot), k208 c208_g23 c208_g27 c208_g30 c208_g34 c208_g36 c208_g39 c208_g66 c208_F22 c208_F24 c208_F25 c208_F26 c208_F28 c208_F29 c208_F31 c208_F32 c208_F33 c208_F37 c208_F38 c208_F40 c208_F41 c208_F61 c208_F64 = some (r, c_g1, c_g23, c_g27, c_g30, c_g34, c_g36, c_g39, c_g62, c_g65, c_g66, c_F22, c_F24, c_F25, c_F26, c_F28, c_F29, c_F31, c_F32, c_F33, c_F37, c_F38, c_F40, c_F41, c_F60, c_F61, c_F63, c_F64) → va_P (dC, dI) vwCl (mW h0 kB kI kZ q (upd (upd (upd (upd (upd (upd (upd (upd g 1 0) 23 c208_g23) 27 c208_g27) 30 c208_g30) 34 c208_g34) 36 c208_g36) 39 c208_g39) 66 c208_g66) (upF (upF (upF (upF (upF (upF (upF (upF (upF (upF (upF (upF (upF (upF (upF F 22 c208_F22) 24 c208_F24) 25 c208_F25) 26 c208_F26) 28 c208_F28) 29 c208_F29) 31 c208_F31) 32 c208_F32) 33 c208_F33) 37 c208_F37) 38 c208_F38) 40 c208_F40) 41 c208_F41) 61 c208_F61) 64 c208_F64)) H → va_D A (mW h0 kB kI kZ q (upd (upd (upd (upd (upd (upd (upd (upd g 1 0) 23 c208_g23) 27 c208_g27) 30 c208_g30) 34 c208_g34) 36 c208_g36) 39 c208_g39) 66 c208_g66) (upF (upF (upF (upF (upF (upF (upF (upF (upF (upF (upF (upF (upF (upF (upF F 22 c208_F22) 24 c208_F24) 25 c208_F25) 26 c208_F26) 28 c208_F28) 29 c208_F29) 31 c208_F31) 32 c208_F32) 33 c208_F33) 37 c208_F37) 38 c208_F38) 40 c208_F40) 41 c208_F41) 61 c208_F61) 64 c208_F64)) → va_S A s.heap H locs → lv_has ls 7 [(0, .ref h0)] → W p l e ({ frames := 48, cells := 0, slots := 0, locals := 1170 } : Room) s m args below meth c H locs 0 0 Q (F0 m 208 ls []) := by
              intro c208_g23 c208_g27 c208_g30 c208_g34 c208_g36 c208_g39 c208_g66 c208_F22 c208_F24 c208_F25 c208_F26 c208_F28 c208_F29 c208_F31 c208_F32 c208_F33 c208_F37 c208_F38 c208_F40 c208_F41 c208_F61 c208_F64 H locs ls hr hP hD hS hl
              rw [hk208] at hr
              refine lv_aload_n hx hb dX12_write_208 rfl (lv_at hl 0 rfl) ?_
              refine lv_aload_n hx hb dX12_write_209 rfl (lv_at hl 0 rfl) ?_
              refine va_get (D := (dC, dI)) (ci := 12) (v := .int c208_g66) (C := RX12) (T := TX12) (N := 71) hx hb hts inX12 hown hK hP 0 rfl rfl 66 (by decide) (hts (.fieldLink RX12 337 "SpellTurnerModel" "drafted" "I") im_208) (fun _ h9 => h9) rfl dX12_write_210 ?_
              refine va_put (D := (dC, dI)) (ci := 12) (v := .int c208_g66) (ty := .int) (C := RX12) (T := TX12) (N := 71) hx hb hts inX12 tyX12 tyX12_ok nmX12 hown hK hP hD hS 0 rfl rfl 62 (by decide) (hts (.fieldLink RX12 361 "SpellTurnerModel" "texted" "I") im_95) (fun _ h9 => h9) rfl (by decide +kernel) rfl rfl (Nat.le_of_ble_eq_true rfl) dX12_write_213 (fun H locs hP hD hS => ?_)
              have hP : va_P (dC, dI) vwCl (mW h0 kB kI kZ q (upd (upd (upd (upd (upd (upd (upd (upd (upd g 1 0) 23 c208_g23) 27 c208_g27) 30 c208_g30) 34 c208_g34) 36 c208_g36) 39 c208_g39) 62 c208_g66) 66 c208_g66) (upF (upF (upF (upF (upF (upF (upF (upF (upF (upF (upF (upF (upF (upF (upF F 22 c208_F22) 24 c208_F24) 25 c208_F25) 26 c208_F26) 28 c208_F28) 29 c208_F29) 31 c208_F31) 32 c208_F32) 33 c208_F33) 37 c208_F37) 38 c208_F38) 40 c208_F40) 41 c208_F41) 61 c208_F61) 64 c208_F64)) H := by first | exact sP_g62 hP (upd_in (by decide) rfl) | exact sP_g62 hP (upd_in (by decide) upd_same) | exact hP
              have hD : va_D A (mW h0 kB kI kZ q (upd (upd (upd (upd (upd (upd (upd (upd (upd g 1 0) 23 c208_g23) 27 c208_g27) 30 c208_g30) 34 c208_g34) 36 c208_g36) 39 c208_g39) 62 c208_g66) 66 c208_g66) (upF (upF (upF (upF (upF (upF (upF (upF (upF (upF (upF (upF (upF (upF (upF F 22 c208_F22) 24 c208_F24) 25 c208_F25) 26 c208_F26) 28 c208_F28) 29 c208_F29) 31 c208_F31) 32 c208_F32) 33 c208_F33) 37 c208_F37) 38 c208_F38) 40 c208_F40) 41 c208_F41) 61 c208_F61) 64 c208_F64)) := by first | exact sD_g62 hD (upd_in (by decide) rfl) | exact sD_g62 hD (upd_in (by decide) upd_same) | exact hD
              refine lv_aload_n hx hb dX12_write_216 rfl (lv_at hl 0 rfl) ?_
              refine lv_iconst (v := 1) hx hb dX12_write_217 (by decide +kernel) ?_
              refine va_put (D := (dC, dI)) (ci := 12) (v := .int 1) (ty := .boolean) (C := RX12) (T := TX12) (N := 71) hx hb hts inX12 tyX12 tyX12_ok nmX12 hown hK hP hD hS 0 rfl rfl 65 (by decide) (hts (.fieldLink RX12 364 "SpellTurnerModel" "hasText" "Z") im_98) (fun _ h9 => h9) rfl (by decide +kernel) rfl rfl (Nat.le_of_ble_eq_true rfl) dX12_write_218 (fun H locs hP hD hS => ?_)
              have hP : va_P (dC, dI) vwCl (mW h0 kB kI kZ q (upd (upd (upd (upd (upd (upd (upd (upd (upd (upd g 1 0) 23 c208_g23) 27 c208_g27) 30 c208_g30) 34 c208_g34) 36 c208_g36) 39 c208_g39) 62 c208_g66) 65 1) 66 c208_g66) (upF (upF (upF (upF (upF (upF (upF (upF (upF (upF (upF (upF (upF (upF (upF F 22 c208_F22) 24 c208_F24) 25 c208_F25) 26 c208_F26) 28 c208_F28) 29 c208_F29) 31 c208_F31) 32 c208_F32) 33 c208_F33) 37 c208_F37) 38 c208_F38) 40 c208_F40) 41 c208_F41) 61 c208_F61) 64 c208_F64)) H := by first | exact sP_g65 hP (upd_in (by decide) rfl) | exact sP_g65 hP (upd_in (by decide) upd_same) | exact hP
              have hD : va_D A (mW h0 kB kI kZ q (upd (upd (upd (upd (upd (upd (upd (upd (upd (upd g 1 0) 23 c208_g23) 27 c208_g27) 30 c208_g30) 34 c208_g34) 36 c208_g36) 39 c208_g39) 62 c208_g66) 65 1) 66 c208_g66) (upF (upF (upF (upF (upF (upF (upF (upF (upF (upF (upF (upF (upF (upF (upF F 22 c208_F22) 24 c208_F24) 25 c208_F25) 26 c208_F26) 28 c208_F28) 29 c208_F29) 31 c208_F31) 32 c208_F32) 33 c208_F33) 37 c208_F37) 38 c208_F38) 40 c208_F40) 41 c208_F41) 61 c208_F61) 64 c208_F64)) := by first | exact sD_g65 hD (upd_in (by decide) rfl) | exact sD_g65 hD (upd_in (by decide) upd_same) | exact hD
              refine lv_iconst (v := 0) hx hb dX12_write_221 (by decide +kernel) ?_
              refine lv_istore (lv' := [(5, .int 0), (0, .ref h0)]) hx hb dX12_write_222 hl (by decide) rfl (fun ls hl => ?_)
              replace hr := jnS hr
              obtain ⟨k253, hk253, hr⟩ := hr
              have Jk253 : ∀ (c253_F60 : (Nat → Int32)) (H : Heap) (locs : List Loc) (ls : Array Slot), k253 c253_F60 = some (r, c_g1, c_g23, c_g27, c_g30, c_g34, c_g36, c_g39, c_g62, c_g65, c_g66, c_F22, c_F24, c_F25, c_F26, c_F28, c_F29, c_F31, c_F32, c_F33, c_F37, c_F38, c_F40, c_F41, c_F60, c_F61, c_F63, c_F64) → va_P (dC, dI) vwCl (mW h0 kB kI kZ q (upd (upd (upd (upd (upd (upd (upd (upd (upd (upd g 1 0) 23 c208_g23) 27 c208_g27) 30 c208_g30) 34 c208_g34) 36 c208_g36) 39 c208_g39) 62 c208_g66) 65 1) 66 c208_g66) (upF (upF (upF (upF (upF (upF (upF (upF (upF (upF (upF (upF (upF (upF (upF (upF F 22 c208_F22) 24 c208_F24) 25 c208_F25) 26 c208_F26) 28 c208_F28) 29 c208_F29) 31 c208_F31) 32 c208_F32) 33 c208_F33) 37 c208_F37) 38 c208_F38) 40 c208_F40) 41 c208_F41) 60 c253_F60) 61 c208_F61) 64 c208_F64)) H → va_D A (mW h0 kB kI kZ q (upd (upd (upd (upd (upd (upd (upd (upd (upd (upd g 1 0) 23 c208_g23) 27 c208_g27) 30 c208_g30) 34 c208_g34) 36 c208_g36) 39 c208_g39) 62 c208_g66) 65 1) 66 c208_g66) (upF (upF (upF (upF (upF (upF (upF (upF (upF (upF (upF (upF (upF (upF (upF (upF F 22 c208_F22) 24 c208_F24) 25 c208_F25) 26 c208_F26) 28 c208_F28) 29 c208_F29) 31 c208_F31) 32 c208_F32) 33 c208_F33) 37 c208_F37) 38 c208_F38) 40 c208_F40) 41 c208_F41) 60 c253_F60) 61 c208_F61) 64 c208_F64)) → va_S A s.heap H locs → lv_has ls 7 [(0, .ref h0)] → W p l e ({ frames := 48, cells := 0, slots := 0, locals := 1170 } : Room) s m args below meth c H locs 0 0 Q (F0 m 253 ls []) := by
                intro c253_F60 H locs ls hr hP hD hS hl
                rw [hk253] at hr
                refine lv_iconst (v := 0) hx hb dX12_write_253 (by decide +kernel) ?_
                refine lv_istore (lv' := [(5, .int 0), (0, .ref h0)]) hx hb dX12_write_254 hl (by decide) rfl (fun ls hl => ?_)
                have lp256 : ∀ (n256 : Nat) (y256_5 : Int32) (d256_F63 : (Nat → Int32)) (H : Heap) (locs : List Loc) (ls : Array Slot), L_write_256 c208_g23 c208_g27 c208_g30 c208_g34 c208_g36 c208_g39 c208_g66 c208_F22 c208_F24 c208_F25 c208_F26 c208_F28 c208_F29 c208_F31 c208_F32 c208_F33 c208_F37 c208_F38 c208_F40 c208_F41 c208_F61 c208_F64 c253_F60 n256 y256_5 d256_F63 = some (r, c_g1, c_g23, c_g27, c_g30, c_g34, c_g36, c_g39, c_g62, c_g65, c_g66, c_F22, c_F24, c_F25, c_F26, c_F28, c_F29, c_F31, c_F32, c_F33, c_F37, c_F38, c_F40, c_F41, c_F60, c_F61, c_F63, c_F64) → va_P (dC, dI) vwCl (mW h0 kB kI kZ q (upd (upd (upd (upd (upd (upd (upd (upd (upd (upd g 1 0) 23 c208_g23) 27 c208_g27) 30 c208_g30) 34 c208_g34) 36 c208_g36) 39 c208_g39) 62 c208_g66) 65 1) 66 c208_g66) (upF (upF (upF (upF (upF (upF (upF (upF (upF (upF (upF (upF (upF (upF (upF (upF (upF F 22 c208_F22) 24 c208_F24) 25 c208_F25) 26 c208_F26) 28 c208_F28) 29 c208_F29) 31 c208_F31) 32 c208_F32) 33 c208_F33) 37 c208_F37) 38 c208_F38) 40 c208_F40) 41 c208_F41) 60 c253_F60) 61 c208_F61) 63 d256_F63) 64 c208_F64)) H → va_D A (mW h0 kB kI kZ q (upd (upd (upd (upd (upd (upd (upd (upd (upd (upd g 1 0) 23 c208_g23) 27 c208_g27) 30 c208_g30) 34 c208_g34) 36 c208_g36) 39 c208_g39) 62 c208_g66) 65 1) 66 c208_g66) (upF (upF (upF (upF (upF (upF (upF (upF (upF (upF (upF (upF (upF (upF (upF (upF (upF F 22 c208_F22) 24 c208_F24) 25 c208_F25) 26 c208_F26) 28 c208_F28) 29 c208_F29) 31 c208_F31) 32 c208_F32) 33 c208_F33) 37 c208_F37) 38 c208_F38) 40 c208_F40) 41 c208_F41) 60 c253_F60) 61 c208_F61) 63 d256_F63) 64 c208_F64)) → va_S A s.heap H locs → lv_has ls 7 [(0, .ref h0), (5, .int y256_5)] → W p l e ({ frames := 48, cells := 0, slots := 0, locals := 1170 } : Room) s m args below meth c H locs 0 0 Q (F0 m 256 ls []) := by
                  intro n256
                  induction n256 with
                  | zero => intro y256_5 d256_F63 H locs ls hr; exact nomatch (show none = some (r, c_g1, c_g23, c_g27, c_g30, c_g34, c_g36, c_g39, c_g62, c_g65, c_g66, c_F22, c_F24, c_F25, c_F26, c_F28, c_F29, c_F31, c_F32, c_F33, c_F37, c_F38, c_F40, c_F41, c_F60, c_F61, c_F63, c_F64) from hr)
                  | succ n256 ih256 =>
                    intro y256_5 d256_F63 H locs ls hr hP hD hS hl
                    replace hr : B_write_256 c208_g23 c208_g27 c208_g30 c208_g34 c208_g36 c208_g39 c208_g66 c208_F22 c208_F24 c208_F25 c208_F26 c208_F28 c208_F29 c208_F31 c208_F32 c208_F33 c208_F37 c208_F38 c208_F40 c208_F41 c208_F61 c208_F64 c253_F60 (L_write_256 c208_g23 c208_g27 c208_g30 c208_g34 c208_g36 c208_g39 c208_g66 c208_F22 c208_F24 c208_F25 c208_F26 c208_F28 c208_F29 c208_F31 c208_F32 c208_F33 c208_F37 c208_F38 c208_F40 c208_F41 c208_F61 c208_F64 c253_F60 n256) y256_5 d256_F63 = some (r, c_g1, c_g23, c_g27, c_g30, c_g34, c_g36, c_g39, c_g62, c_g65, c_g66, c_F22, c_F24, c_F25, c_F26, c_F28, c_F29, c_F31, c_F32, c_F33, c_F37, c_F38, c_F40, c_F41, c_F60, c_F61, c_F63, c_F64) := hr
                    unfold B_write_256 at hr
                    refine lv_iload hx hb dX12_write_256 (lv_at hl 1 rfl) ?_
                    refine lv_iconst (v := 5) hx hb dX12_write_258 (by decide +kernel) ?_
                    refine lv_icmp_ge (tgt := 282) hx hb dX12_write_259 (by decide) (fun c259 => ?_) (fun c259 => ?_)
                    · replace hr := iteT c259 hr
                      refine lv_aload_n hx hb dX12_write_282 rfl (lv_at hl 0 rfl) ?_
                      refine va_get (D := (dC, dI)) (ci := 12) (v := .int c208_g66) (C := RX12) (T := TX12) (N := 71) hx hb hts inX12 hown hK hP 0 rfl rfl 62 (by decide) (hts (.fieldLink RX12 361 "SpellTurnerModel" "texted" "I") im_95) (fun _ h9 => h9) rfl dX12_write_283 ?_
                      first | exact K 286 ls _ _ _ _ _ _ _ _ _ _ _ _ _ _ _ _ _ _ _ _ _ _ _ _ _ _ _ _ H _ hr dX12_write_286 (sP_eq (mW_cg (by repeat (first | with_reducible rfl | with_reducible refine upd_cg ?_ | refine Eq.trans ?_ (upd_id rfl))) (by repeat (first | with_reducible rfl | with_reducible refine upF_cg ?_ | refine Eq.trans ?_ (upF_id rfl)))) hP) (sD_eq (mW_cg (by repeat (first | with_reducible rfl | with_reducible refine upd_cg ?_ | refine Eq.trans ?_ (upd_id rfl))) (by repeat (first | with_reducible rfl | with_reducible refine upF_cg ?_ | refine Eq.trans ?_ (upF_id rfl)))) hD) hS | exact K 286 ls _ _ _ _ _ _ _ _ _ _ _ _ _ _ _ _ _ _ _ _ _ _ _ _ _ _ _ _ H _ hr dX12_write_286 hP hD hS
                    · replace hr := iteF c259 hr
                      refine lv_aload_n hx hb dX12_write_262 rfl (lv_at hl 0 rfl) ?_
                      refine va_get (D := (dC, dI)) (ci := 12) (v := .ref (q 63)) (C := RX12) (T := TX12) (N := 71) hx hb hts inX12 hown hK hP 0 rfl rfl 63 (by decide) (hts (.fieldLink RX12 137 "SpellTurnerModel" "counts" "[I") im_99) (fun _ h9 => h9) rfl dX12_write_263 ?_
                      refine lv_iload hx hb dX12_write_266 (lv_at hl 1 rfl) ?_
                      refine lv_aload_n hx hb dX12_write_268 rfl (lv_at hl 0 rfl) ?_
                      refine va_get (D := (dC, dI)) (ci := 12) (v := .ref (q 64)) (C := RX12) (T := TX12) (N := 71) hx hb hts inX12 hown hK hP 0 rfl rfl 64 (by decide) (hts (.fieldLink RX12 140 "SpellTurnerModel" "newCounts" "[I") im_214) (fun _ h9 => h9) rfl dX12_write_269 ?_
                      refine lv_iload hx hb dX12_write_272 (lv_at hl 1 rfl) ?_
                      replace hr := iteS hr
                      obtain ⟨hi274, hr⟩ := hr
                      refine va_iald (f := c208_F64) hx hb hK hP 42 1 rfl rfl (inbV hi274) dX12_write_274 ?_
                      replace hr := iteS hr
                      obtain ⟨hi275, hr⟩ := hr
                      refine va_iast (f := d256_F63) hx hb hK hP hD hS 41 1 rfl rfl (inbV hi275) dX12_write_275 (fun H locs hP hD hS => ?_)
                      obtain ⟨w275, ew275, hP, hD⟩ : ∃ w275 : Nat → Int32, w275 = (upd d256_F63 (Int32.toNatClampNeg y256_5) (c208_F64 (Int32.toNatClampNeg y256_5))) ∧ va_P (dC, dI) vwCl (mW h0 kB kI kZ q (upd (upd (upd (upd (upd (upd (upd (upd (upd (upd g 1 0) 23 c208_g23) 27 c208_g27) 30 c208_g30) 34 c208_g34) 36 c208_g36) 39 c208_g39) 62 c208_g66) 65 1) 66 c208_g66) (upF (upF (upF (upF (upF (upF (upF (upF (upF (upF (upF (upF (upF (upF (upF (upF (upF F 22 c208_F22) 24 c208_F24) 25 c208_F25) 26 c208_F26) 28 c208_F28) 29 c208_F29) 31 c208_F31) 32 c208_F32) 33 c208_F33) 37 c208_F37) 38 c208_F38) 40 c208_F40) 41 c208_F41) 60 c253_F60) 61 c208_F61) 63 w275) 64 c208_F64)) H ∧ va_D A (mW h0 kB kI kZ q (upd (upd (upd (upd (upd (upd (upd (upd (upd (upd g 1 0) 23 c208_g23) 27 c208_g27) 30 c208_g30) 34 c208_g34) 36 c208_g36) 39 c208_g39) 62 c208_g66) 65 1) 66 c208_g66) (upF (upF (upF (upF (upF (upF (upF (upF (upF (upF (upF (upF (upF (upF (upF (upF (upF F 22 c208_F22) 24 c208_F24) 25 c208_F25) 26 c208_F26) 28 c208_F28) 29 c208_F29) 31 c208_F31) 32 c208_F32) 33 c208_F33) 37 c208_F37) 38 c208_F38) 40 c208_F40) 41 c208_F41) 60 c253_F60) 61 c208_F61) 63 w275) 64 c208_F64)) := ⟨(upd d256_F63 (Int32.toNatClampNeg y256_5) (c208_F64 (Int32.toNatClampNeg y256_5))), rfl, by first | exact sP_F63 hP (upF_in (by decide) upF_same) | exact sP_F63 hP (upF_in (by decide) rfl) | exact hP, by first | exact sD_F63 hD (upF_in (by decide) upF_same) | exact sD_F63 hD (upF_in (by decide) rfl) | exact hD⟩
                      replace hr := vlS hr w275 ew275
                      clear ew275
                      refine lv_iinc (v := (y256_5 + 1)) (lv' := [(5, .int (y256_5 + 1)), (0, .ref h0)]) hx hb dX12_write_276 hl (k := 1) rfl rfl (by decide) rfl (fun ls hl => ?_)
                      refine lv_goto (tgt := 256) hx hb dX12_write_279 (by decide) ?_
                      exact ih256 (y256_5 + 1) w275 H _ ls hr hP hD hS (lv_sub hl [1, 0] rfl)
                first | exact lp256 NN 0 (F 63) H _ ls hr (sP_eq (mW_cg (by repeat (first | with_reducible rfl | with_reducible refine upd_cg ?_ | refine Eq.trans ?_ (upd_id rfl))) (by repeat (first | with_reducible rfl | with_reducible refine upF_cg ?_ | refine Eq.trans ?_ (upF_id rfl)))) hP) (sD_eq (mW_cg (by repeat (first | with_reducible rfl | with_reducible refine upd_cg ?_ | refine Eq.trans ?_ (upd_id rfl))) (by repeat (first | with_reducible rfl | with_reducible refine upF_cg ?_ | refine Eq.trans ?_ (upF_id rfl)))) hD) hS (lv_sub hl [1, 0] rfl) | exact lp256 NN 0 (F 63) H _ ls hr hP hD hS (lv_sub hl [1, 0] rfl)
              have lp224 : ∀ (n224 : Nat) (y224_5 : Int32) (d224_F60 : (Nat → Int32)) (H : Heap) (locs : List Loc) (ls : Array Slot), L_write_224 c208_g66 c208_F61 k253 n224 y224_5 d224_F60 = some (r, c_g1, c_g23, c_g27, c_g30, c_g34, c_g36, c_g39, c_g62, c_g65, c_g66, c_F22, c_F24, c_F25, c_F26, c_F28, c_F29, c_F31, c_F32, c_F33, c_F37, c_F38, c_F40, c_F41, c_F60, c_F61, c_F63, c_F64) → va_P (dC, dI) vwCl (mW h0 kB kI kZ q (upd (upd (upd (upd (upd (upd (upd (upd (upd (upd g 1 0) 23 c208_g23) 27 c208_g27) 30 c208_g30) 34 c208_g34) 36 c208_g36) 39 c208_g39) 62 c208_g66) 65 1) 66 c208_g66) (upF (upF (upF (upF (upF (upF (upF (upF (upF (upF (upF (upF (upF (upF (upF (upF F 22 c208_F22) 24 c208_F24) 25 c208_F25) 26 c208_F26) 28 c208_F28) 29 c208_F29) 31 c208_F31) 32 c208_F32) 33 c208_F33) 37 c208_F37) 38 c208_F38) 40 c208_F40) 41 c208_F41) 60 d224_F60) 61 c208_F61) 64 c208_F64)) H → va_D A (mW h0 kB kI kZ q (upd (upd (upd (upd (upd (upd (upd (upd (upd (upd g 1 0) 23 c208_g23) 27 c208_g27) 30 c208_g30) 34 c208_g34) 36 c208_g36) 39 c208_g39) 62 c208_g66) 65 1) 66 c208_g66) (upF (upF (upF (upF (upF (upF (upF (upF (upF (upF (upF (upF (upF (upF (upF (upF F 22 c208_F22) 24 c208_F24) 25 c208_F25) 26 c208_F26) 28 c208_F28) 29 c208_F29) 31 c208_F31) 32 c208_F32) 33 c208_F33) 37 c208_F37) 38 c208_F38) 40 c208_F40) 41 c208_F41) 60 d224_F60) 61 c208_F61) 64 c208_F64)) → va_S A s.heap H locs → lv_has ls 7 [(0, .ref h0), (5, .int y224_5)] → W p l e ({ frames := 48, cells := 0, slots := 0, locals := 1170 } : Room) s m args below meth c H locs 0 0 Q (F0 m 224 ls []) := by
                intro n224
                induction n224 with
                | zero => intro y224_5 d224_F60 H locs ls hr; exact nomatch (show none = some (r, c_g1, c_g23, c_g27, c_g30, c_g34, c_g36, c_g39, c_g62, c_g65, c_g66, c_F22, c_F24, c_F25, c_F26, c_F28, c_F29, c_F31, c_F32, c_F33, c_F37, c_F38, c_F40, c_F41, c_F60, c_F61, c_F63, c_F64) from hr)
                | succ n224 ih224 =>
                  intro y224_5 d224_F60 H locs ls hr hP hD hS hl
                  replace hr : B_write_224 c208_g66 c208_F61 k253 (L_write_224 c208_g66 c208_F61 k253 n224) y224_5 d224_F60 = some (r, c_g1, c_g23, c_g27, c_g30, c_g34, c_g36, c_g39, c_g62, c_g65, c_g66, c_F22, c_F24, c_F25, c_F26, c_F28, c_F29, c_F31, c_F32, c_F33, c_F37, c_F38, c_F40, c_F41, c_F60, c_F61, c_F63, c_F64) := hr
                  unfold B_write_224 at hr
                  refine lv_iload hx hb dX12_write_224 (lv_at hl 1 rfl) ?_
                  refine lv_aload_n hx hb dX12_write_226 rfl (lv_at hl 0 rfl) ?_
                  refine va_get (D := (dC, dI)) (ci := 12) (v := .int c208_g66) (C := RX12) (T := TX12) (N := 71) hx hb hts inX12 hown hK hP 0 rfl rfl 66 (by decide) (hts (.fieldLink RX12 337 "SpellTurnerModel" "drafted" "I") im_208) (fun _ h9 => h9) rfl dX12_write_227 ?_
                  refine lv_icmp_ge (tgt := 253) hx hb dX12_write_230 (by decide) (fun c230 => ?_) (fun c230 => ?_)
                  · replace hr := iteT c230 hr
                    exact Jk253 d224_F60 H _ ls hr hP hD hS (lv_sub hl [0] rfl)
                  · replace hr := iteF c230 hr
                    refine lv_aload_n hx hb dX12_write_233 rfl (lv_at hl 0 rfl) ?_
                    refine va_get (D := (dC, dI)) (ci := 12) (v := .ref (q 60)) (C := RX12) (T := TX12) (N := 71) hx hb hts inX12 hown hK hP 0 rfl rfl 60 (by decide) (hts (.fieldLink RX12 131 "SpellTurnerModel" "text" "[B") im_96) (fun _ h9 => h9) rfl dX12_write_234 ?_
                    refine lv_iload hx hb dX12_write_237 (lv_at hl 1 rfl) ?_
                    refine lv_aload_n hx hb dX12_write_239 rfl (lv_at hl 0 rfl) ?_
                    refine va_get (D := (dC, dI)) (ci := 12) (v := .ref (q 61)) (C := RX12) (T := TX12) (N := 71) hx hb hts inX12 hown hK hP 0 rfl rfl 61 (by decide) (hts (.fieldLink RX12 134 "SpellTurnerModel" "draft" "[B") im_209) (fun _ h9 => h9) rfl dX12_write_240 ?_
                    refine lv_iload hx hb dX12_write_243 (lv_at hl 1 rfl) ?_
                    replace hr := iteS hr
                    obtain ⟨hi245, hr⟩ := hr
                    refine va_bald (f := c208_F61) hx hb hK hP 40 0 rfl rfl (inbV hi245) dX12_write_245 ?_
                    replace hr := iteS hr
                    obtain ⟨hi246, hr⟩ := hr
                    refine va_bast (f := d224_F60) hx hb hK hP hD hS 39 0 rfl rfl (inbV hi246) dX12_write_246 (fun H locs hP hD hS => ?_)
                    obtain ⟨w246, ew246, hP, hD⟩ : ∃ w246 : Nat → Int32, w246 = (upd d224_F60 (Int32.toNatClampNeg y224_5) (vp_nar .byte (c208_F61 (Int32.toNatClampNeg y224_5)))) ∧ va_P (dC, dI) vwCl (mW h0 kB kI kZ q (upd (upd (upd (upd (upd (upd (upd (upd (upd (upd g 1 0) 23 c208_g23) 27 c208_g27) 30 c208_g30) 34 c208_g34) 36 c208_g36) 39 c208_g39) 62 c208_g66) 65 1) 66 c208_g66) (upF (upF (upF (upF (upF (upF (upF (upF (upF (upF (upF (upF (upF (upF (upF (upF F 22 c208_F22) 24 c208_F24) 25 c208_F25) 26 c208_F26) 28 c208_F28) 29 c208_F29) 31 c208_F31) 32 c208_F32) 33 c208_F33) 37 c208_F37) 38 c208_F38) 40 c208_F40) 41 c208_F41) 60 w246) 61 c208_F61) 64 c208_F64)) H ∧ va_D A (mW h0 kB kI kZ q (upd (upd (upd (upd (upd (upd (upd (upd (upd (upd g 1 0) 23 c208_g23) 27 c208_g27) 30 c208_g30) 34 c208_g34) 36 c208_g36) 39 c208_g39) 62 c208_g66) 65 1) 66 c208_g66) (upF (upF (upF (upF (upF (upF (upF (upF (upF (upF (upF (upF (upF (upF (upF (upF F 22 c208_F22) 24 c208_F24) 25 c208_F25) 26 c208_F26) 28 c208_F28) 29 c208_F29) 31 c208_F31) 32 c208_F32) 33 c208_F33) 37 c208_F37) 38 c208_F38) 40 c208_F40) 41 c208_F41) 60 w246) 61 c208_F61) 64 c208_F64)) := ⟨(upd d224_F60 (Int32.toNatClampNeg y224_5) (vp_nar .byte (c208_F61 (Int32.toNatClampNeg y224_5)))), rfl, by first | exact sP_F60 hP (upF_in (by decide) (upF_in (by decide) upF_same)) | exact sP_F60 hP (upF_in (by decide) (upF_in (by decide) rfl)) | exact hP, by first | exact sD_F60 hD (upF_in (by decide) (upF_in (by decide) upF_same)) | exact sD_F60 hD (upF_in (by decide) (upF_in (by decide) rfl)) | exact hD⟩
                    replace hr := vlS hr w246 ew246
                    clear ew246
                    refine lv_iinc (v := (y224_5 + 1)) (lv' := [(5, .int (y224_5 + 1)), (0, .ref h0)]) hx hb dX12_write_247 hl (k := 1) rfl rfl (by decide) rfl (fun ls hl => ?_)
                    refine lv_goto (tgt := 224) hx hb dX12_write_250 (by decide) ?_
                    exact ih224 (y224_5 + 1) w246 H _ ls hr hP hD hS (lv_sub hl [1, 0] rfl)
              first | exact lp224 NN 0 (F 60) H _ ls hr (sP_eq (mW_cg (by repeat (first | with_reducible rfl | with_reducible refine upd_cg ?_ | refine Eq.trans ?_ (upd_id rfl))) (by repeat (first | with_reducible rfl | with_reducible refine upF_cg ?_ | refine Eq.trans ?_ (upF_id rfl)))) hP) (sD_eq (mW_cg (by repeat (first | with_reducible rfl | with_reducible refine upd_cg ?_ | refine Eq.trans ?_ (upd_id rfl))) (by repeat (first | with_reducible rfl | with_reducible refine upF_cg ?_ | refine Eq.trans ?_ (upF_id rfl)))) hD) hS (lv_sub hl [1, 0] rfl) | exact lp224 NN 0 (F 60) H _ ls hr hP hD hS (lv_sub hl [1, 0] rfl)
            have lp75 : ∀ (n75 : Nat) (y75_4 : Int32) (d75_g23 : Int32) (d75_g27 : Int32) (d75_g30 : Int32) (d75_g34 : Int32) (d75_g36 : Int32) (d75_g39 : Int32) (d75_g66 : Int32) (d75_F22 : (Nat → Int32)) (d75_F24 : (Nat → Int32)) (d75_F25 : (Nat → Int32)) (d75_F26 : (Nat → Int32)) (d75_F28 : (Nat → Int32)) (d75_F29 : (Nat → Int32)) (d75_F31 : (Nat → Int32)) (d75_F32 : (Nat → Int32)) (d75_F33 : (Nat → Int32)) (d75_F37 : (Nat → Int32)) (d75_F38 : (Nat → Int32)) (d75_F40 : (Nat → Int32)) (d75_F41 : (Nat → Int32)) (d75_F61 : (Nat → Int32)) (d75_F64 : (Nat → Int32)) (H : Heap) (locs : List Loc) (ls : Array Slot), L_write_75 g F p0 p1 k208 n75 y75_4 d75_g23 d75_g27 d75_g30 d75_g34 d75_g36 d75_g39 d75_g66 d75_F22 d75_F24 d75_F25 d75_F26 d75_F28 d75_F29 d75_F31 d75_F32 d75_F33 d75_F37 d75_F38 d75_F40 d75_F41 d75_F61 d75_F64 = some (r, c_g1, c_g23, c_g27, c_g30, c_g34, c_g36, c_g39, c_g62, c_g65, c_g66, c_F22, c_F24, c_F25, c_F26, c_F28, c_F29, c_F31, c_F32, c_F33, c_F37, c_F38, c_F40, c_F41, c_F60, c_F61, c_F63, c_F64) → va_P (dC, dI) vwCl (mW h0 kB kI kZ q (upd (upd (upd (upd (upd (upd (upd (upd g 1 0) 23 d75_g23) 27 d75_g27) 30 d75_g30) 34 d75_g34) 36 d75_g36) 39 d75_g39) 66 d75_g66) (upF (upF (upF (upF (upF (upF (upF (upF (upF (upF (upF (upF (upF (upF (upF F 22 d75_F22) 24 d75_F24) 25 d75_F25) 26 d75_F26) 28 d75_F28) 29 d75_F29) 31 d75_F31) 32 d75_F32) 33 d75_F33) 37 d75_F37) 38 d75_F38) 40 d75_F40) 41 d75_F41) 61 d75_F61) 64 d75_F64)) H → va_D A (mW h0 kB kI kZ q (upd (upd (upd (upd (upd (upd (upd (upd g 1 0) 23 d75_g23) 27 d75_g27) 30 d75_g30) 34 d75_g34) 36 d75_g36) 39 d75_g39) 66 d75_g66) (upF (upF (upF (upF (upF (upF (upF (upF (upF (upF (upF (upF (upF (upF (upF F 22 d75_F22) 24 d75_F24) 25 d75_F25) 26 d75_F26) 28 d75_F28) 29 d75_F29) 31 d75_F31) 32 d75_F32) 33 d75_F33) 37 d75_F37) 38 d75_F38) 40 d75_F40) 41 d75_F41) 61 d75_F61) 64 d75_F64)) → va_S A s.heap H locs → lv_has ls 7 [(0, .ref h0), (1, .int p0), (2, .int p1), (3, .int (g 1)), (4, .int y75_4)] → W p l e ({ frames := 48, cells := 0, slots := 0, locals := 1170 } : Room) s m args below meth c H locs 0 0 Q (F0 m 75 ls []) := by
              intro n75
              induction n75 with
              | zero => intro y75_4 d75_g23 d75_g27 d75_g30 d75_g34 d75_g36 d75_g39 d75_g66 d75_F22 d75_F24 d75_F25 d75_F26 d75_F28 d75_F29 d75_F31 d75_F32 d75_F33 d75_F37 d75_F38 d75_F40 d75_F41 d75_F61 d75_F64 H locs ls hr; exact nomatch (show none = some (r, c_g1, c_g23, c_g27, c_g30, c_g34, c_g36, c_g39, c_g62, c_g65, c_g66, c_F22, c_F24, c_F25, c_F26, c_F28, c_F29, c_F31, c_F32, c_F33, c_F37, c_F38, c_F40, c_F41, c_F60, c_F61, c_F63, c_F64) from hr)
              | succ n75 ih75 =>
                intro y75_4 d75_g23 d75_g27 d75_g30 d75_g34 d75_g36 d75_g39 d75_g66 d75_F22 d75_F24 d75_F25 d75_F26 d75_F28 d75_F29 d75_F31 d75_F32 d75_F33 d75_F37 d75_F38 d75_F40 d75_F41 d75_F61 d75_F64 H locs ls hr hP hD hS hl
                replace hr : B_write_75 g F p0 p1 k208 (L_write_75 g F p0 p1 k208 n75) y75_4 d75_g23 d75_g27 d75_g30 d75_g34 d75_g36 d75_g39 d75_g66 d75_F22 d75_F24 d75_F25 d75_F26 d75_F28 d75_F29 d75_F31 d75_F32 d75_F33 d75_F37 d75_F38 d75_F40 d75_F41 d75_F61 d75_F64 = some (r, c_g1, c_g23, c_g27, c_g30, c_g34, c_g36, c_g39, c_g62, c_g65, c_g66, c_F22, c_F24, c_F25, c_F26, c_F28, c_F29, c_F31, c_F32, c_F33, c_F37, c_F38, c_F40, c_F41, c_F60, c_F61, c_F63, c_F64) := hr
                unfold B_write_75 at hr
                refine lv_iload hx hb dX12_write_75 (lv_at hl 4 rfl) ?_
                refine lv_iload_n hx hb dX12_write_77 rfl (lv_at hl 3 rfl) ?_
                refine lv_icmp_ge (tgt := 208) hx hb dX12_write_78 (by decide) (fun c78 => ?_) (fun c78 => ?_)
                · replace hr := iteT c78 hr
                  exact Jk208 d75_g23 d75_g27 d75_g30 d75_g34 d75_g36 d75_g39 d75_g66 d75_F22 d75_F24 d75_F25 d75_F26 d75_F28 d75_F29 d75_F31 d75_F32 d75_F33 d75_F37 d75_F38 d75_F40 d75_F41 d75_F61 d75_F64 H _ ls hr hP hD hS (lv_sub hl [0] rfl)
                · replace hr := iteF c78 hr
                  refine lv_iload hx hb dX12_write_81 (lv_at hl 4 rfl) ?_
                  refine lv_iconst (v := 1) hx hb dX12_write_83 (by decide +kernel) ?_
                  refine lv_iadd hx hb dX12_write_84 ?_
                  refine lv_topi (fun x85 ex85 => ?_)
                  replace hr := vlS hr x85 ex85
                  clear ex85
                  refine lv_istore (lv' := [(5, .int x85), (0, .ref h0), (1, .int p0), (2, .int p1), (3, .int (g 1)), (4, .int y75_4)]) hx hb dX12_write_85 hl (by decide) rfl (fun ls hl => ?_)
                  refine lv_aload_n hx hb dX12_write_87 rfl (lv_at hl 1 rfl) ?_
                  refine va_get (D := (dC, dI)) (ci := 12) (v := .ref (q 0)) (C := RX12) (T := TX12) (N := 71) hx hb hts inX12 hown hK hP 0 rfl rfl 0 (by decide) (hts (.fieldLink RX12 7 "SpellTurnerModel" "tape" "[B") im_34) (fun _ h9 => h9) rfl dX12_write_88 ?_
                  refine lv_iload hx hb dX12_write_91 (lv_at hl 5 rfl) ?_
                  replace hr := iteS hr
                  obtain ⟨hi93, hr⟩ := hr
                  refine va_bald (f := (F 0)) hx hb hK hP 1 0 rfl rfl (inbV hi93) dX12_write_93 ?_
                  refine lv_bipush (v := 34) hx hb dX12_write_94 (by decide +kernel) ?_
                  replace hr := jnS hr
                  obtain ⟨j194, hj194, hr⟩ := hr
                  have Jj194 : ∀ (x194_5 : Int32) (x194_6 : Int32) (c194_g23 : Int32) (c194_g27 : Int32) (c194_g30 : Int32) (c194_g34 : Int32) (c194_g36 : Int32) (c194_g39 : Int32) (c194_g66 : Int32) (c194_F22 : (Nat → Int32)) (c194_F24 : (Nat → Int32)) (c194_F25 : (Nat → Int32)) (c194_F26 : (Nat → Int32)) (c194_F28 : (Nat → Int32)) (c194_F29 : (Nat → Int32)) (c194_F31 : (Nat → Int32)) (c194_F32 : (Nat → Int32)) (c194_F33 : (Nat → Int32)) (c194_F37 : (Nat → Int32)) (c194_F38 : (Nat → Int32)) (c194_F40 : (Nat → Int32)) (c194_F41 : (Nat → Int32)) (c194_F61 : (Nat → Int32)) (c194_F64 : (Nat → Int32)) (H : Heap) (locs : List Loc) (ls : Array Slot), j194 x194_5 x194_6 c194_g23 c194_g27 c194_g30 c194_g34 c194_g36 c194_g39 c194_g66 c194_F22 c194_F24 c194_F25 c194_F26 c194_F28 c194_F29 c194_F31 c194_F32 c194_F33 c194_F37 c194_F38 c194_F40 c194_F41 c194_F61 c194_F64 = some (r, c_g1, c_g23, c_g27, c_g30, c_g34, c_g36, c_g39, c_g62, c_g65, c_g66, c_F22, c_F24, c_F25, c_F26, c_F28, c_F29, c_F31, c_F32, c_F33, c_F37, c_F38, c_F40, c_F41, c_F60, c_F61, c_F63, c_F64) → va_P (dC, dI) vwCl (mW h0 kB kI kZ q (upd (upd (upd (upd (upd (upd (upd (upd g 1 0) 23 c194_g23) 27 c194_g27) 30 c194_g30) 34 c194_g34) 36 c194_g36) 39 c194_g39) 66 c194_g66) (upF (upF (upF (upF (upF (upF (upF (upF (upF (upF (upF (upF (upF (upF (upF F 22 c194_F22) 24 c194_F24) 25 c194_F25) 26 c194_F26) 28 c194_F28) 29 c194_F29) 31 c194_F31) 32 c194_F32) 33 c194_F33) 37 c194_F37) 38 c194_F38) 40 c194_F40) 41 c194_F41) 61 c194_F61) 64 c194_F64)) H → va_D A (mW h0 kB kI kZ q (upd (upd (upd (upd (upd (upd (upd (upd g 1 0) 23 c194_g23) 27 c194_g27) 30 c194_g30) 34 c194_g34) 36 c194_g36) 39 c194_g39) 66 c194_g66) (upF (upF (upF (upF (upF (upF (upF (upF (upF (upF (upF (upF (upF (upF (upF F 22 c194_F22) 24 c194_F24) 25 c194_F25) 26 c194_F26) 28 c194_F28) 29 c194_F29) 31 c194_F31) 32 c194_F32) 33 c194_F33) 37 c194_F37) 38 c194_F38) 40 c194_F40) 41 c194_F41) 61 c194_F61) 64 c194_F64)) → va_S A s.heap H locs → lv_has ls 7 [(0, .ref h0), (1, .int p0), (2, .int p1), (3, .int (g 1)), (5, .int x194_5), (6, .int x194_6)] → W p l e ({ frames := 48, cells := 0, slots := 0, locals := 1170 } : Room) s m args below meth c H locs 0 0 Q (F0 m 194 ls []) := by
                    intro x194_5 x194_6 c194_g23 c194_g27 c194_g30 c194_g34 c194_g36 c194_g39 c194_g66 c194_F22 c194_F24 c194_F25 c194_F26 c194_F28 c194_F29 c194_F31 c194_F32 c194_F33 c194_F37 c194_F38 c194_F40 c194_F41 c194_F61 c194_F64 H locs ls hr hP hD hS hl
                    rw [hj194] at hr
                    refine lv_iload hx hb dX12_write_194 (lv_at hl 5 rfl) ?_
                    refine lv_if_ne (tgt := 201) hx hb dX12_write_196 (by decide) (fun c196 => ?_) (fun c196 => ?_)
                    · replace hr := iteF c196 hr
                      refine lv_iload hx hb dX12_write_201 (lv_at hl 4 rfl) ?_
                      refine lv_istore (lv' := [(4, .int x194_5), (0, .ref h0), (1, .int p0), (2, .int p1), (3, .int (g 1)), (5, .int x194_5), (6, .int x194_6)]) hx hb dX12_write_203 hl (by decide) rfl (fun ls hl => ?_)
                      refine lv_goto (tgt := 75) hx hb dX12_write_205 (by decide) ?_
                      exact ih75 x194_5 c194_g23 c194_g27 c194_g30 c194_g34 c194_g36 c194_g39 c194_g66 c194_F22 c194_F24 c194_F25 c194_F26 c194_F28 c194_F29 c194_F31 c194_F32 c194_F33 c194_F37 c194_F38 c194_F40 c194_F41 c194_F61 c194_F64 H _ ls hr hP hD hS (lv_sub hl [1, 2, 3, 4, 0] rfl)
                    · replace hr := iteT c196 hr
                      refine lv_iconst (v := (-1)) hx hb dX12_write_199 (by decide +kernel) ?_
                      first | exact K 200 ls _ _ _ _ _ _ _ _ _ _ _ _ _ _ _ _ _ _ _ _ _ _ _ _ _ _ _ _ H _ hr dX12_write_200 (sP_eq (mW_cg (by repeat (first | with_reducible rfl | with_reducible refine upd_cg ?_ | refine Eq.trans ?_ (upd_id rfl))) (by repeat (first | with_reducible rfl | with_reducible refine upF_cg ?_ | refine Eq.trans ?_ (upF_id rfl)))) hP) (sD_eq (mW_cg (by repeat (first | with_reducible rfl | with_reducible refine upd_cg ?_ | refine Eq.trans ?_ (upd_id rfl))) (by repeat (first | with_reducible rfl | with_reducible refine upF_cg ?_ | refine Eq.trans ?_ (upF_id rfl)))) hD) hS | exact K 200 ls _ _ _ _ _ _ _ _ _ _ _ _ _ _ _ _ _ _ _ _ _ _ _ _ _ _ _ _ H _ hr dX12_write_200 hP hD hS
                  refine lv_icmp_ne (tgt := 128) hx hb dX12_write_96 (by decide) (fun c96 => ?_) (fun c96 => ?_)
                  · replace hr := iteF c96 hr
                    refine lv_aload_n hx hb dX12_write_128 rfl (lv_at hl 1 rfl) ?_
                    refine va_get (D := (dC, dI)) (ci := 12) (v := .ref (q 0)) (C := RX12) (T := TX12) (N := 71) hx hb hts inX12 hown hK hP 0 rfl rfl 0 (by decide) (hts (.fieldLink RX12 7 "SpellTurnerModel" "tape" "[B") im_34) (fun _ h9 => h9) rfl dX12_write_129 ?_
                    refine lv_iload hx hb dX12_write_132 (lv_at hl 5 rfl) ?_
                    replace hr := iteS hr
                    obtain ⟨hi134, hr⟩ := hr
                    refine va_bald (f := (F 0)) hx hb hK hP 1 0 rfl rfl (inbV hi134) dX12_write_134 ?_
                    replace hr := b1S hr
                    obtain ⟨r135z, hc135, hr⟩ := hr
                    have hFc := fr_all hD hS hA
                    refine va_calli (va_runS (As := [.int ((F 0) (Int32.toNatClampNeg y75_4))]) (rest := []) ⟨hx, hb, hml, hown, hts⟩ (m_isLetter l dC dI H.size h0 kB kI kZ q (upd (upd (upd (upd (upd (upd (upd (upd g 1 0) 23 d75_g23) 27 d75_g27) 30 d75_g30) 34 d75_g34) 36 d75_g36) 39 d75_g39) 66 d75_g66) (upF (upF (upF (upF (upF (upF (upF (upF (upF (upF (upF (upF (upF (upF (upF F 22 d75_F22) 24 d75_F24) 25 d75_F25) 26 d75_F26) 28 d75_F28) 29 d75_F29) 31 d75_F31) 32 d75_F32) 33 d75_F33) 37 d75_F37) 38 d75_F38) 40 d75_F40) 41 d75_F41) 61 d75_F61) 64 d75_F64) ((F 0) (Int32.toNatClampNeg y75_4)) r135z hc135) (va_cwS 1 hts gw_X12_isLetter_354 rfl rfl rfl (by decide +kernel) ⟨Nat.le_of_ble_eq_true rfl, Nat.le_of_ble_eq_true rfl⟩) ⟨fun a U g mk q => by obtain ⟨q0, q1, qP, qK, qD⟩ := q; exact ⟨q0, q1, qP, va_K.moved (u := U) (U := U.calling g mk a) (Vm.Alike.refl U.vm) qK, qD⟩, fun U hU hW => ⟨rfl, by rw [hU], by rw [hU]; exact hP, va_K.moved hW.alike hK, hD.weaken (fun _ _ _ _ => trivial)⟩⟩ rfl rfl hl.1 rfl (lv_room (Nat.le_of_ble_eq_true rfl)) dX12_write_135 ⟨Nat.le_of_ble_eq_true rfl, Nat.le_of_ble_eq_true rfl⟩) hS (fun q _ h => hFc q h) hFc (fun r135 u t H1 locs ht hvm hw hB hz1 hk1 hS => ?_)
                    replace hw : r135 = r135z := hw
                    subst hw
                    obtain ⟨hP1, hK1, hD1⟩ := hB
                    rw [ht] at hP1
                    obtain ⟨hP, hD⟩ := jn_all (w1 := (mW h0 kB kI kZ q (upd (upd (upd (upd (upd (upd (upd (upd g 1 0) 23 d75_g23) 27 d75_g27) 30 d75_g30) 34 d75_g34) 36 d75_g36) 39 d75_g39) 66 d75_g66) (upF (upF (upF (upF (upF (upF (upF (upF (upF (upF (upF (upF (upF (upF (upF F 22 d75_F22) 24 d75_F24) 25 d75_F25) 26 d75_F26) 28 d75_F28) 29 d75_F29) 31 d75_F31) 32 d75_F32) 33 d75_F33) 37 d75_F37) 38 d75_F38) 40 d75_F40) 41 d75_F41) 61 d75_F61) 64 d75_F64))) hFc hP1 hD1
                    clear hFc hP1 hK1 hD1 hk1 hz1 ht hvm
                    generalize H1 = H at hP hS ⊢
                    have hP : va_P (dC, dI) vwCl (mW h0 kB kI kZ q (upd (upd (upd (upd (upd (upd (upd (upd g 1 0) 23 d75_g23) 27 d75_g27) 30 d75_g30) 34 d75_g34) 36 d75_g36) 39 d75_g39) 66 d75_g66) (upF (upF (upF (upF (upF (upF (upF (upF (upF (upF (upF (upF (upF (upF (upF F 22 d75_F22) 24 d75_F24) 25 d75_F25) 26 d75_F26) 28 d75_F28) 29 d75_F29) 31 d75_F31) 32 d75_F32) 33 d75_F33) 37 d75_F37) 38 d75_F38) 40 d75_F40) 41 d75_F41) 61 d75_F61) 64 d75_F64)) H := hP
                    have hD : va_D A (mW h0 kB kI kZ q (upd (upd (upd (upd (upd (upd (upd (upd g 1 0) 23 d75_g23) 27 d75_g27) 30 d75_g30) 34 d75_g34) 36 d75_g36) 39 d75_g39) 66 d75_g66) (upF (upF (upF (upF (upF (upF (upF (upF (upF (upF (upF (upF (upF (upF (upF F 22 d75_F22) 24 d75_F24) 25 d75_F25) 26 d75_F26) 28 d75_F28) 29 d75_F29) 31 d75_F31) 32 d75_F32) 33 d75_F33) 37 d75_F37) 38 d75_F38) 40 d75_F40) 41 d75_F41) 61 d75_F61) 64 d75_F64)) := hD
                    refine lv_if_eq (tgt := 181) hx hb dX12_write_138 (by decide) (fun c138 => ?_) (fun c138 => ?_)
                    · replace hr := iteT c138 hr
                      refine lv_aload_n hx hb dX12_write_181 rfl (lv_at hl 1 rfl) ?_
                      refine lv_aload_n hx hb dX12_write_182 rfl (lv_at hl 1 rfl) ?_
                      refine va_get (D := (dC, dI)) (ci := 12) (v := .ref (q 0)) (C := RX12) (T := TX12) (N := 71) hx hb hts inX12 hown hK hP 0 rfl rfl 0 (by decide) (hts (.fieldLink RX12 7 "SpellTurnerModel" "tape" "[B") im_34) (fun _ h9 => h9) rfl dX12_write_183 ?_
                      refine lv_iload hx hb dX12_write_186 (lv_at hl 5 rfl) ?_
                      refine lv_iconst (v := 1) hx hb dX12_write_188 (by decide +kernel) ?_
                      replace hr := b3S hr
                      obtain ⟨r189z, c189_g66, c189_F61, hc189, hr⟩ := hr
                      have hFc := fr_all hD hS hA
                      refine va_calli (va_runV (As := [.ref (q 0), .int y75_4, .int 1]) (rest := []) ⟨hx, hb, hml, hown, hts⟩ (m_write1_0 l dC dI H.size h0 kB kI kZ q (upd (upd (upd (upd (upd (upd (upd (upd g 1 0) 23 d75_g23) 27 d75_g27) 30 d75_g30) 34 d75_g34) 36 d75_g36) 39 d75_g39) 66 d75_g66) (upF (upF (upF (upF (upF (upF (upF (upF (upF (upF (upF (upF (upF (upF (upF F 22 d75_F22) 24 d75_F24) 25 d75_F25) 26 d75_F26) 28 d75_F28) 29 d75_F29) 31 d75_F31) 32 d75_F32) 33 d75_F33) 37 d75_F37) 38 d75_F38) 40 d75_F40) 41 d75_F41) 61 d75_F61) 64 d75_F64) y75_4 1 r189z c189_g66 c189_F61 hc189) (cwV 3 hts gw_X12_write1_344 rfl rfl rfl (by decide +kernel) ⟨Nat.le_of_ble_eq_true rfl, Nat.le_of_ble_eq_true rfl⟩) ⟨fun a U g mk q => by obtain ⟨q0, q1, qP, qK, qD⟩ := q; exact ⟨q0, q1, qP, va_K.moved (u := U) (U := U.calling g mk a) (Vm.Alike.refl U.vm) qK, qD⟩, va_recv hK hP (ci := 12) (q0 := 0) rfl rfl, fun U hU hW => ⟨rfl, by rw [hU], by rw [hU]; exact hP, va_K.moved hW.alike hK, hD.weaken (fun _ _ _ _ => trivial)⟩⟩ rfl rfl hl.1 rfl (lv_room (Nat.le_of_ble_eq_true rfl)) dX12_write_189 ⟨Nat.le_of_ble_eq_true rfl, Nat.le_of_ble_eq_true rfl⟩) hS (fun q _ h => hFc q h) hFc (fun r189 u t H1 locs ht hvm hw hB hz1 hk1 hS => ?_)
                      replace hw : r189 = r189z := hw
                      subst hw
                      obtain ⟨hP1, hK1, hD1⟩ := hB
                      rw [ht] at hP1
                      obtain ⟨hP, hD⟩ := jn_all (w1 := (mW h0 kB kI kZ q (upd (upd (upd (upd (upd (upd (upd (upd g 1 0) 23 d75_g23) 27 d75_g27) 30 d75_g30) 34 d75_g34) 36 d75_g36) 39 d75_g39) 66 c189_g66) (upF (upF (upF (upF (upF (upF (upF (upF (upF (upF (upF (upF (upF (upF (upF F 22 d75_F22) 24 d75_F24) 25 d75_F25) 26 d75_F26) 28 d75_F28) 29 d75_F29) 31 d75_F31) 32 d75_F32) 33 d75_F33) 37 d75_F37) 38 d75_F38) 40 d75_F40) 41 d75_F41) 61 c189_F61) 64 d75_F64))) hFc hP1 hD1
                      clear hFc hP1 hK1 hD1 hk1 hz1 ht hvm
                      generalize H1 = H at hP hS ⊢
                      have hP : va_P (dC, dI) vwCl (mW h0 kB kI kZ q (upd (upd (upd (upd (upd (upd (upd (upd g 1 0) 23 d75_g23) 27 d75_g27) 30 d75_g30) 34 d75_g34) 36 d75_g36) 39 d75_g39) 66 c189_g66) (upF (upF (upF (upF (upF (upF (upF (upF (upF (upF (upF (upF (upF (upF (upF F 22 d75_F22) 24 d75_F24) 25 d75_F25) 26 d75_F26) 28 d75_F28) 29 d75_F29) 31 d75_F31) 32 d75_F32) 33 d75_F33) 37 d75_F37) 38 d75_F38) 40 d75_F40) 41 d75_F41) 61 c189_F61) 64 d75_F64)) H := hP
                      have hD : va_D A (mW h0 kB kI kZ q (upd (upd (upd (upd (upd (upd (upd (upd g 1 0) 23 d75_g23) 27 d75_g27) 30 d75_g30) 34 d75_g34) 36 d75_g36) 39 d75_g39) 66 c189_g66) (upF (upF (upF (upF (upF (upF (upF (upF (upF (upF (upF (upF (upF (upF (upF F 22 d75_F22) 24 d75_F24) 25 d75_F25) 26 d75_F26) 28 d75_F28) 29 d75_F29) 31 d75_F31) 32 d75_F32) 33 d75_F33) 37 d75_F37) 38 d75_F38) 40 d75_F40) 41 d75_F41) 61 c189_F61) 64 d75_F64)) := hD
                      refine lv_istore (lv' := [(6, .int r189), (5, .int x85), (0, .ref h0), (1, .int p0), (2, .int p1), (3, .int (g 1)), (4, .int y75_4)]) hx hb dX12_write_192 hl (by decide) rfl (fun ls hl => ?_)
                      exact Jj194 x85 r189 d75_g23 d75_g27 d75_g30 d75_g34 d75_g36 d75_g39 c189_g66 d75_F22 d75_F24 d75_F25 d75_F26 d75_F28 d75_F29 d75_F31 d75_F32 d75_F33 d75_F37 d75_F38 d75_F40 d75_F41 c189_F61 d75_F64 H _ ls hr hP hD hS (lv_sub hl [2, 3, 4, 5, 1, 0] rfl)
                    · replace hr := iteF c138 hr
                      replace hr := jnS hr
                      obtain ⟨k166, hk166, hr⟩ := hr
                      have Jk166 : ∀ (x166_5 : Int32) (H : Heap) (locs : List Loc) (ls : Array Slot), k166 x166_5 = some (r, c_g1, c_g23, c_g27, c_g30, c_g34, c_g36, c_g39, c_g62, c_g65, c_g66, c_F22, c_F24, c_F25, c_F26, c_F28, c_F29, c_F31, c_F32, c_F33, c_F37, c_F38, c_F40, c_F41, c_F60, c_F61, c_F63, c_F64) → va_P (dC, dI) vwCl (mW h0 kB kI kZ q (upd (upd (upd (upd (upd (upd (upd (upd g 1 0) 23 d75_g23) 27 d75_g27) 30 d75_g30) 34 d75_g34) 36 d75_g36) 39 d75_g39) 66 d75_g66) (upF (upF (upF (upF (upF (upF (upF (upF (upF (upF (upF (upF (upF (upF (upF F 22 d75_F22) 24 d75_F24) 25 d75_F25) 26 d75_F26) 28 d75_F28) 29 d75_F29) 31 d75_F31) 32 d75_F32) 33 d75_F33) 37 d75_F37) 38 d75_F38) 40 d75_F40) 41 d75_F41) 61 d75_F61) 64 d75_F64)) H → va_D A (mW h0 kB kI kZ q (upd (upd (upd (upd (upd (upd (upd (upd g 1 0) 23 d75_g23) 27 d75_g27) 30 d75_g30) 34 d75_g34) 36 d75_g36) 39 d75_g39) 66 d75_g66) (upF (upF (upF (upF (upF (upF (upF (upF (upF (upF (upF (upF (upF (upF (upF F 22 d75_F22) 24 d75_F24) 25 d75_F25) 26 d75_F26) 28 d75_F28) 29 d75_F29) 31 d75_F31) 32 d75_F32) 33 d75_F33) 37 d75_F37) 38 d75_F38) 40 d75_F40) 41 d75_F41) 61 d75_F61) 64 d75_F64)) → va_S A s.heap H locs → lv_has ls 7 [(0, .ref h0), (1, .int p0), (2, .int p1), (3, .int (g 1)), (4, .int y75_4), (5, .int x166_5)] → W p l e ({ frames := 48, cells := 0, slots := 0, locals := 1170 } : Room) s m args below meth c H locs 0 0 Q (F0 m 166 ls []) := by
                        intro x166_5 H locs ls hr hP hD hS hl
                        rw [hk166] at hr
                        refine lv_aload_n hx hb dX12_write_166 rfl (lv_at hl 0 rfl) ?_
                        refine lv_iload hx hb dX12_write_167 (lv_at hl 4 rfl) ?_
                        refine lv_iload hx hb dX12_write_169 (lv_at hl 5 rfl) ?_
                        refine lv_iload_n hx hb dX12_write_171 rfl (lv_at hl 1 rfl) ?_
                        refine lv_iload_n hx hb dX12_write_172 rfl (lv_at hl 2 rfl) ?_
                        replace hr := b23S hr
                        obtain ⟨r173z, c173_g23, c173_g27, c173_g30, c173_g34, c173_g36, c173_g39, c173_g66, c173_F22, c173_F24, c173_F25, c173_F26, c173_F28, c173_F29, c173_F31, c173_F32, c173_F33, c173_F37, c173_F38, c173_F40, c173_F41, c173_F61, c173_F64, hc173, hr⟩ := hr
                        have hFc := fr_all hD hS hA
                        refine va_calli (va_runV (As := [.int y75_4, .int x166_5, .int p0, .int p1]) (rest := []) ⟨hx, hb, hml, hown, hts⟩ (m_writeWord l dC dI H.size h0 kB kI kZ q (upd (upd (upd (upd (upd (upd (upd (upd g 1 0) 23 d75_g23) 27 d75_g27) 30 d75_g30) 34 d75_g34) 36 d75_g36) 39 d75_g39) 66 d75_g66) (upF (upF (upF (upF (upF (upF (upF (upF (upF (upF (upF (upF (upF (upF (upF F 22 d75_F22) 24 d75_F24) 25 d75_F25) 26 d75_F26) 28 d75_F28) 29 d75_F29) 31 d75_F31) 32 d75_F32) 33 d75_F33) 37 d75_F37) 38 d75_F38) 40 d75_F40) 41 d75_F41) 61 d75_F61) 64 d75_F64) y75_4 x166_5 p0 p1 r173z c173_g23 c173_g27 c173_g30 c173_g34 c173_g36 c173_g39 c173_g66 c173_F22 c173_F24 c173_F25 c173_F26 c173_F28 c173_F29 c173_F31 c173_F32 c173_F33 c173_F37 c173_F38 c173_F40 c173_F41 c173_F61 c173_F64 hc173) (cwV 4 hts gw_X12_writeWord_357 rfl rfl rfl (by decide +kernel) ⟨Nat.le_of_ble_eq_true rfl, Nat.le_of_ble_eq_true rfl⟩) ⟨fun a U g mk q => by obtain ⟨q0, q1, qP, qK, qD⟩ := q; exact ⟨q0, q1, qP, va_K.moved (u := U) (U := U.calling g mk a) (Vm.Alike.refl U.vm) qK, qD⟩, va_recv hK hP (ci := 12) (q0 := 0) rfl rfl, fun U hU hW => ⟨rfl, by rw [hU], by rw [hU]; exact hP, va_K.moved hW.alike hK, hD.weaken (fun _ _ _ _ => trivial)⟩⟩ rfl rfl hl.1 rfl (lv_room (Nat.le_of_ble_eq_true rfl)) dX12_write_173 ⟨Nat.le_of_ble_eq_true rfl, Nat.le_of_ble_eq_true rfl⟩) hS (fun q _ h => hFc q h) hFc (fun r173 u t H1 locs ht hvm hw hB hz1 hk1 hS => ?_)
                        replace hw : r173 = r173z := hw
                        subst hw
                        obtain ⟨hP1, hK1, hD1⟩ := hB
                        rw [ht] at hP1
                        obtain ⟨hP, hD⟩ := jn_all (w1 := (mW h0 kB kI kZ q (upd (upd (upd (upd (upd (upd (upd (upd g 1 0) 23 c173_g23) 27 c173_g27) 30 c173_g30) 34 c173_g34) 36 c173_g36) 39 c173_g39) 66 c173_g66) (upF (upF (upF (upF (upF (upF (upF (upF (upF (upF (upF (upF (upF (upF (upF F 22 c173_F22) 24 c173_F24) 25 c173_F25) 26 c173_F26) 28 c173_F28) 29 c173_F29) 31 c173_F31) 32 c173_F32) 33 c173_F33) 37 c173_F37) 38 c173_F38) 40 c173_F40) 41 c173_F41) 61 c173_F61) 64 c173_F64))) hFc hP1 hD1
                        clear hFc hP1 hK1 hD1 hk1 hz1 ht hvm
                        generalize H1 = H at hP hS ⊢
                        have hP : va_P (dC, dI) vwCl (mW h0 kB kI kZ q (upd (upd (upd (upd (upd (upd (upd (upd g 1 0) 23 c173_g23) 27 c173_g27) 30 c173_g30) 34 c173_g34) 36 c173_g36) 39 c173_g39) 66 c173_g66) (upF (upF (upF (upF (upF (upF (upF (upF (upF (upF (upF (upF (upF (upF (upF F 22 c173_F22) 24 c173_F24) 25 c173_F25) 26 c173_F26) 28 c173_F28) 29 c173_F29) 31 c173_F31) 32 c173_F32) 33 c173_F33) 37 c173_F37) 38 c173_F38) 40 c173_F40) 41 c173_F41) 61 c173_F61) 64 c173_F64)) H := hP
                        have hD : va_D A (mW h0 kB kI kZ q (upd (upd (upd (upd (upd (upd (upd (upd g 1 0) 23 c173_g23) 27 c173_g27) 30 c173_g30) 34 c173_g34) 36 c173_g36) 39 c173_g39) 66 c173_g66) (upF (upF (upF (upF (upF (upF (upF (upF (upF (upF (upF (upF (upF (upF (upF F 22 c173_F22) 24 c173_F24) 25 c173_F25) 26 c173_F26) 28 c173_F28) 29 c173_F29) 31 c173_F31) 32 c173_F32) 33 c173_F33) 37 c173_F37) 38 c173_F38) 40 c173_F40) 41 c173_F41) 61 c173_F61) 64 c173_F64)) := hD
                        refine lv_istore (lv' := [(6, .int r173), (0, .ref h0), (1, .int p0), (2, .int p1), (3, .int (g 1)), (4, .int y75_4), (5, .int x166_5)]) hx hb dX12_write_176 hl (by decide) rfl (fun ls hl => ?_)
                        refine lv_goto (tgt := 194) hx hb dX12_write_178 (by decide) ?_
                        exact Jj194 x166_5 r173 c173_g23 c173_g27 c173_g30 c173_g34 c173_g36 c173_g39 c173_g66 c173_F22 c173_F24 c173_F25 c173_F26 c173_F28 c173_F29 c173_F31 c173_F32 c173_F33 c173_F37 c173_F38 c173_F40 c173_F41 c173_F61 c173_F64 H _ ls hr hP hD hS (lv_sub hl [1, 2, 3, 4, 6, 0] rfl)
                      have lp141 : ∀ (n141 : Nat) (y141_5 : Int32) (H : Heap) (locs : List Loc) (ls : Array Slot), L_write_141 g F k166 n141 y141_5 = some (r, c_g1, c_g23, c_g27, c_g30, c_g34, c_g36, c_g39, c_g62, c_g65, c_g66, c_F22, c_F24, c_F25, c_F26, c_F28, c_F29, c_F31, c_F32, c_F33, c_F37, c_F38, c_F40, c_F41, c_F60, c_F61, c_F63, c_F64) → va_P (dC, dI) vwCl (mW h0 kB kI kZ q (upd (upd (upd (upd (upd (upd (upd (upd g 1 0) 23 d75_g23) 27 d75_g27) 30 d75_g30) 34 d75_g34) 36 d75_g36) 39 d75_g39) 66 d75_g66) (upF (upF (upF (upF (upF (upF (upF (upF (upF (upF (upF (upF (upF (upF (upF F 22 d75_F22) 24 d75_F24) 25 d75_F25) 26 d75_F26) 28 d75_F28) 29 d75_F29) 31 d75_F31) 32 d75_F32) 33 d75_F33) 37 d75_F37) 38 d75_F38) 40 d75_F40) 41 d75_F41) 61 d75_F61) 64 d75_F64)) H → va_D A (mW h0 kB kI kZ q (upd (upd (upd (upd (upd (upd (upd (upd g 1 0) 23 d75_g23) 27 d75_g27) 30 d75_g30) 34 d75_g34) 36 d75_g36) 39 d75_g39) 66 d75_g66) (upF (upF (upF (upF (upF (upF (upF (upF (upF (upF (upF (upF (upF (upF (upF F 22 d75_F22) 24 d75_F24) 25 d75_F25) 26 d75_F26) 28 d75_F28) 29 d75_F29) 31 d75_F31) 32 d75_F32) 33 d75_F33) 37 d75_F37) 38 d75_F38) 40 d75_F40) 41 d75_F41) 61 d75_F61) 64 d75_F64)) → va_S A s.heap H locs → lv_has ls 7 [(0, .ref h0), (1, .int p0), (2, .int p1), (3, .int (g 1)), (4, .int y75_4), (5, .int y141_5)] → W p l e ({ frames := 48, cells := 0, slots := 0, locals := 1170 } : Room) s m args below meth c H locs 0 0 Q (F0 m 141 ls []) := by
                        intro n141
                        induction n141 with
                        | zero => intro y141_5 H locs ls hr; exact nomatch (show none = some (r, c_g1, c_g23, c_g27, c_g30, c_g34, c_g36, c_g39, c_g62, c_g65, c_g66, c_F22, c_F24, c_F25, c_F26, c_F28, c_F29, c_F31, c_F32, c_F33, c_F37, c_F38, c_F40, c_F41, c_F60, c_F61, c_F63, c_F64) from hr)
                        | succ n141 ih141 =>
                          intro y141_5 H locs ls hr hP hD hS hl
                          replace hr : B_write_141 g F k166 (L_write_141 g F k166 n141) y141_5 = some (r, c_g1, c_g23, c_g27, c_g30, c_g34, c_g36, c_g39, c_g62, c_g65, c_g66, c_F22, c_F24, c_F25, c_F26, c_F28, c_F29, c_F31, c_F32, c_F33, c_F37, c_F38, c_F40, c_F41, c_F60, c_F61, c_F63, c_F64) := hr
                          unfold B_write_141 at hr
                          refine lv_iload hx hb dX12_write_141 (lv_at hl 5 rfl) ?_
                          refine lv_iload_n hx hb dX12_write_143 rfl (lv_at hl 3 rfl) ?_
                          refine lv_icmp_ge (tgt := 166) hx hb dX12_write_144 (by decide) (fun c144 => ?_) (fun c144 => ?_)
                          · replace hr := iteT c144 hr
                            exact Jk166 y141_5 H _ ls hr hP hD hS (lv_sub hl [0, 1, 2, 3, 4, 5] rfl)
                          · replace hr := iteF c144 hr
                            refine lv_aload_n hx hb dX12_write_147 rfl (lv_at hl 0 rfl) ?_
                            refine va_get (D := (dC, dI)) (ci := 12) (v := .ref (q 0)) (C := RX12) (T := TX12) (N := 71) hx hb hts inX12 hown hK hP 0 rfl rfl 0 (by decide) (hts (.fieldLink RX12 7 "SpellTurnerModel" "tape" "[B") im_34) (fun _ h9 => h9) rfl dX12_write_148 ?_
                            refine lv_iload hx hb dX12_write_151 (lv_at hl 5 rfl) ?_
                            replace hr := iteS hr
                            obtain ⟨hi153, hr⟩ := hr
                            refine va_bald (f := (F 0)) hx hb hK hP 1 0 rfl rfl (inbV hi153) dX12_write_153 ?_
                            replace hr := b1S hr
                            obtain ⟨r154z, hc154, hr⟩ := hr
                            have hFc := fr_all hD hS hA
                            refine va_calli (va_runS (As := [.int ((F 0) (Int32.toNatClampNeg y141_5))]) (rest := []) ⟨hx, hb, hml, hown, hts⟩ (m_isLetter l dC dI H.size h0 kB kI kZ q (upd (upd (upd (upd (upd (upd (upd (upd g 1 0) 23 d75_g23) 27 d75_g27) 30 d75_g30) 34 d75_g34) 36 d75_g36) 39 d75_g39) 66 d75_g66) (upF (upF (upF (upF (upF (upF (upF (upF (upF (upF (upF (upF (upF (upF (upF F 22 d75_F22) 24 d75_F24) 25 d75_F25) 26 d75_F26) 28 d75_F28) 29 d75_F29) 31 d75_F31) 32 d75_F32) 33 d75_F33) 37 d75_F37) 38 d75_F38) 40 d75_F40) 41 d75_F41) 61 d75_F61) 64 d75_F64) ((F 0) (Int32.toNatClampNeg y141_5)) r154z hc154) (va_cwS 1 hts gw_X12_isLetter_354 rfl rfl rfl (by decide +kernel) ⟨Nat.le_of_ble_eq_true rfl, Nat.le_of_ble_eq_true rfl⟩) ⟨fun a U g mk q => by obtain ⟨q0, q1, qP, qK, qD⟩ := q; exact ⟨q0, q1, qP, va_K.moved (u := U) (U := U.calling g mk a) (Vm.Alike.refl U.vm) qK, qD⟩, fun U hU hW => ⟨rfl, by rw [hU], by rw [hU]; exact hP, va_K.moved hW.alike hK, hD.weaken (fun _ _ _ _ => trivial)⟩⟩ rfl rfl hl.1 rfl (lv_room (Nat.le_of_ble_eq_true rfl)) dX12_write_154 ⟨Nat.le_of_ble_eq_true rfl, Nat.le_of_ble_eq_true rfl⟩) hS (fun q _ h => hFc q h) hFc (fun r154 u t H1 locs ht hvm hw hB hz1 hk1 hS => ?_)
                            replace hw : r154 = r154z := hw
                            subst hw
                            obtain ⟨hP1, hK1, hD1⟩ := hB
                            rw [ht] at hP1
                            obtain ⟨hP, hD⟩ := jn_all (w1 := (mW h0 kB kI kZ q (upd (upd (upd (upd (upd (upd (upd (upd g 1 0) 23 d75_g23) 27 d75_g27) 30 d75_g30) 34 d75_g34) 36 d75_g36) 39 d75_g39) 66 d75_g66) (upF (upF (upF (upF (upF (upF (upF (upF (upF (upF (upF (upF (upF (upF (upF F 22 d75_F22) 24 d75_F24) 25 d75_F25) 26 d75_F26) 28 d75_F28) 29 d75_F29) 31 d75_F31) 32 d75_F32) 33 d75_F33) 37 d75_F37) 38 d75_F38) 40 d75_F40) 41 d75_F41) 61 d75_F61) 64 d75_F64))) hFc hP1 hD1
                            clear hFc hP1 hK1 hD1 hk1 hz1 ht hvm
                            generalize H1 = H at hP hS ⊢
                            have hP : va_P (dC, dI) vwCl (mW h0 kB kI kZ q (upd (upd (upd (upd (upd (upd (upd (upd g 1 0) 23 d75_g23) 27 d75_g27) 30 d75_g30) 34 d75_g34) 36 d75_g36) 39 d75_g39) 66 d75_g66) (upF (upF (upF (upF (upF (upF (upF (upF (upF (upF (upF (upF (upF (upF (upF F 22 d75_F22) 24 d75_F24) 25 d75_F25) 26 d75_F26) 28 d75_F28) 29 d75_F29) 31 d75_F31) 32 d75_F32) 33 d75_F33) 37 d75_F37) 38 d75_F38) 40 d75_F40) 41 d75_F41) 61 d75_F61) 64 d75_F64)) H := hP
                            have hD : va_D A (mW h0 kB kI kZ q (upd (upd (upd (upd (upd (upd (upd (upd g 1 0) 23 d75_g23) 27 d75_g27) 30 d75_g30) 34 d75_g34) 36 d75_g36) 39 d75_g39) 66 d75_g66) (upF (upF (upF (upF (upF (upF (upF (upF (upF (upF (upF (upF (upF (upF (upF F 22 d75_F22) 24 d75_F24) 25 d75_F25) 26 d75_F26) 28 d75_F28) 29 d75_F29) 31 d75_F31) 32 d75_F32) 33 d75_F33) 37 d75_F37) 38 d75_F38) 40 d75_F40) 41 d75_F41) 61 d75_F61) 64 d75_F64)) := hD
                            refine lv_if_eq (tgt := 166) hx hb dX12_write_157 (by decide) (fun c157 => ?_) (fun c157 => ?_)
                            · replace hr := iteT c157 hr
                              exact Jk166 y141_5 H _ ls hr hP hD hS (lv_sub hl [0, 1, 2, 3, 4, 5] rfl)
                            · replace hr := iteF c157 hr
                              refine lv_iinc (v := (y141_5 + 1)) (lv' := [(5, .int (y141_5 + 1)), (0, .ref h0), (1, .int p0), (2, .int p1), (3, .int (g 1)), (4, .int y75_4)]) hx hb dX12_write_160 hl (k := 5) rfl rfl (by decide) rfl (fun ls hl => ?_)
                              refine lv_goto (tgt := 141) hx hb dX12_write_163 (by decide) ?_
                              exact ih141 (y141_5 + 1) H _ ls hr hP hD hS (lv_sub hl [1, 2, 3, 4, 5, 0] rfl)
                      exact lp141 NN x85 H _ ls hr hP hD hS (lv_sub hl [1, 2, 3, 4, 5, 0] rfl)
                  · replace hr := iteT c96 hr
                    refine lv_aload_n hx hb dX12_write_99 rfl (lv_at hl 1 rfl) ?_
                    refine lv_iload hx hb dX12_write_100 (lv_at hl 5 rfl) ?_
                    refine lv_iload_n hx hb dX12_write_102 rfl (lv_at hl 4 rfl) ?_
                    replace hr := b1S hr
                    obtain ⟨r103z, hc103, hr⟩ := hr
                    have hFc := fr_all hD hS hA
                    refine va_calli (va_runV (As := [.int y75_4, .int (g 1)]) (rest := []) ⟨hx, hb, hml, hown, hts⟩ (m_quoted l dC dI H.size h0 kB kI kZ q (upd (upd (upd (upd (upd (upd (upd (upd g 1 0) 23 d75_g23) 27 d75_g27) 30 d75_g30) 34 d75_g34) 36 d75_g36) 39 d75_g39) 66 d75_g66) (upF (upF (upF (upF (upF (upF (upF (upF (upF (upF (upF (upF (upF (upF (upF F 22 d75_F22) 24 d75_F24) 25 d75_F25) 26 d75_F26) 28 d75_F28) 29 d75_F29) 31 d75_F31) 32 d75_F32) 33 d75_F33) 37 d75_F37) 38 d75_F38) 40 d75_F40) 41 d75_F41) 61 d75_F61) 64 d75_F64) y75_4 (g 1) r103z hc103) (cwV 2 hts gw_X12_quoted_351 rfl rfl rfl (by decide +kernel) ⟨Nat.le_of_ble_eq_true rfl, Nat.le_of_ble_eq_true rfl⟩) ⟨fun a U g mk q => by obtain ⟨q0, q1, qP, qK, qD⟩ := q; exact ⟨q0, q1, qP, va_K.moved (u := U) (U := U.calling g mk a) (Vm.Alike.refl U.vm) qK, qD⟩, va_recv hK hP (ci := 12) (q0 := 0) rfl rfl, fun U hU hW => ⟨rfl, by rw [hU], by rw [hU]; exact hP, va_K.moved hW.alike hK, hD.weaken (fun _ _ _ _ => trivial)⟩⟩ rfl rfl hl.1 rfl (lv_room (Nat.le_of_ble_eq_true rfl)) dX12_write_103 ⟨Nat.le_of_ble_eq_true rfl, Nat.le_of_ble_eq_true rfl⟩) hS (fun q _ h => hFc q h) hFc (fun r103 u t H1 locs ht hvm hw hB hz1 hk1 hS => ?_)
                    replace hw : r103 = r103z := hw
                    subst hw
                    obtain ⟨hP1, hK1, hD1⟩ := hB
                    rw [ht] at hP1
                    obtain ⟨hP, hD⟩ := jn_all (w1 := (mW h0 kB kI kZ q (upd (upd (upd (upd (upd (upd (upd (upd g 1 0) 23 d75_g23) 27 d75_g27) 30 d75_g30) 34 d75_g34) 36 d75_g36) 39 d75_g39) 66 d75_g66) (upF (upF (upF (upF (upF (upF (upF (upF (upF (upF (upF (upF (upF (upF (upF F 22 d75_F22) 24 d75_F24) 25 d75_F25) 26 d75_F26) 28 d75_F28) 29 d75_F29) 31 d75_F31) 32 d75_F32) 33 d75_F33) 37 d75_F37) 38 d75_F38) 40 d75_F40) 41 d75_F41) 61 d75_F61) 64 d75_F64))) hFc hP1 hD1
                    clear hFc hP1 hK1 hD1 hk1 hz1 ht hvm
                    generalize H1 = H at hP hS ⊢
                    have hP : va_P (dC, dI) vwCl (mW h0 kB kI kZ q (upd (upd (upd (upd (upd (upd (upd (upd g 1 0) 23 d75_g23) 27 d75_g27) 30 d75_g30) 34 d75_g34) 36 d75_g36) 39 d75_g39) 66 d75_g66) (upF (upF (upF (upF (upF (upF (upF (upF (upF (upF (upF (upF (upF (upF (upF F 22 d75_F22) 24 d75_F24) 25 d75_F25) 26 d75_F26) 28 d75_F28) 29 d75_F29) 31 d75_F31) 32 d75_F32) 33 d75_F33) 37 d75_F37) 38 d75_F38) 40 d75_F40) 41 d75_F41) 61 d75_F61) 64 d75_F64)) H := hP
                    have hD : va_D A (mW h0 kB kI kZ q (upd (upd (upd (upd (upd (upd (upd (upd g 1 0) 23 d75_g23) 27 d75_g27) 30 d75_g30) 34 d75_g34) 36 d75_g36) 39 d75_g39) 66 d75_g66) (upF (upF (upF (upF (upF (upF (upF (upF (upF (upF (upF (upF (upF (upF (upF F 22 d75_F22) 24 d75_F24) 25 d75_F25) 26 d75_F26) 28 d75_F28) 29 d75_F29) 31 d75_F31) 32 d75_F32) 33 d75_F33) 37 d75_F37) 38 d75_F38) 40 d75_F40) 41 d75_F41) 61 d75_F61) 64 d75_F64)) := hD
                    refine lv_istore (lv' := [(5, .int r103), (0, .ref h0), (1, .int p0), (2, .int p1), (3, .int (g 1)), (4, .int y75_4)]) hx hb dX12_write_106 hl (by decide) rfl (fun ls hl => ?_)
                    refine lv_aload_n hx hb dX12_write_108 rfl (lv_at hl 1 rfl) ?_
                    refine lv_aload_n hx hb dX12_write_109 rfl (lv_at hl 1 rfl) ?_
                    refine va_get (D := (dC, dI)) (ci := 12) (v := .ref (q 0)) (C := RX12) (T := TX12) (N := 71) hx hb hts inX12 hown hK hP 0 rfl rfl 0 (by decide) (hts (.fieldLink RX12 7 "SpellTurnerModel" "tape" "[B") im_34) (fun _ h9 => h9) rfl dX12_write_110 ?_
                    refine lv_iload hx hb dX12_write_113 (lv_at hl 5 rfl) ?_
                    refine lv_iload hx hb dX12_write_115 (lv_at hl 0 rfl) ?_
                    refine lv_iload hx hb dX12_write_117 (lv_at hl 5 rfl) ?_
                    refine lv_isub hx hb dX12_write_119 ?_
                    replace hr := b3S hr
                    obtain ⟨r120z, c120_g66, c120_F61, hc120, hr⟩ := hr
                    have hFc := fr_all hD hS hA
                    refine va_calli (va_runV (As := [.ref (q 0), .int y75_4, .int (r103 - y75_4)]) (rest := []) ⟨hx, hb, hml, hown, hts⟩ (m_write1_0 l dC dI H.size h0 kB kI kZ q (upd (upd (upd (upd (upd (upd (upd (upd g 1 0) 23 d75_g23) 27 d75_g27) 30 d75_g30) 34 d75_g34) 36 d75_g36) 39 d75_g39) 66 d75_g66) (upF (upF (upF (upF (upF (upF (upF (upF (upF (upF (upF (upF (upF (upF (upF F 22 d75_F22) 24 d75_F24) 25 d75_F25) 26 d75_F26) 28 d75_F28) 29 d75_F29) 31 d75_F31) 32 d75_F32) 33 d75_F33) 37 d75_F37) 38 d75_F38) 40 d75_F40) 41 d75_F41) 61 d75_F61) 64 d75_F64) y75_4 (r103 - y75_4) r120z c120_g66 c120_F61 hc120) (cwV 3 hts gw_X12_write1_344 rfl rfl rfl (by decide +kernel) ⟨Nat.le_of_ble_eq_true rfl, Nat.le_of_ble_eq_true rfl⟩) ⟨fun a U g mk q => by obtain ⟨q0, q1, qP, qK, qD⟩ := q; exact ⟨q0, q1, qP, va_K.moved (u := U) (U := U.calling g mk a) (Vm.Alike.refl U.vm) qK, qD⟩, va_recv hK hP (ci := 12) (q0 := 0) rfl rfl, fun U hU hW => ⟨rfl, by rw [hU], by rw [hU]; exact hP, va_K.moved hW.alike hK, hD.weaken (fun _ _ _ _ => trivial)⟩⟩ rfl rfl hl.1 rfl (lv_room (Nat.le_of_ble_eq_true rfl)) dX12_write_120 ⟨Nat.le_of_ble_eq_true rfl, Nat.le_of_ble_eq_true rfl⟩) hS (fun q _ h => hFc q h) hFc (fun r120 u t H1 locs ht hvm hw hB hz1 hk1 hS => ?_)
                    replace hw : r120 = r120z := hw
                    subst hw
                    obtain ⟨hP1, hK1, hD1⟩ := hB
                    rw [ht] at hP1
                    obtain ⟨hP, hD⟩ := jn_all (w1 := (mW h0 kB kI kZ q (upd (upd (upd (upd (upd (upd (upd (upd g 1 0) 23 d75_g23) 27 d75_g27) 30 d75_g30) 34 d75_g34) 36 d75_g36) 39 d75_g39) 66 c120_g66) (upF (upF (upF (upF (upF (upF (upF (upF (upF (upF (upF (upF (upF (upF (upF F 22 d75_F22) 24 d75_F24) 25 d75_F25) 26 d75_F26) 28 d75_F28) 29 d75_F29) 31 d75_F31) 32 d75_F32) 33 d75_F33) 37 d75_F37) 38 d75_F38) 40 d75_F40) 41 d75_F41) 61 c120_F61) 64 d75_F64))) hFc hP1 hD1
                    clear hFc hP1 hK1 hD1 hk1 hz1 ht hvm
                    generalize H1 = H at hP hS ⊢
                    have hP : va_P (dC, dI) vwCl (mW h0 kB kI kZ q (upd (upd (upd (upd (upd (upd (upd (upd g 1 0) 23 d75_g23) 27 d75_g27) 30 d75_g30) 34 d75_g34) 36 d75_g36) 39 d75_g39) 66 c120_g66) (upF (upF (upF (upF (upF (upF (upF (upF (upF (upF (upF (upF (upF (upF (upF F 22 d75_F22) 24 d75_F24) 25 d75_F25) 26 d75_F26) 28 d75_F28) 29 d75_F29) 31 d75_F31) 32 d75_F32) 33 d75_F33) 37 d75_F37) 38 d75_F38) 40 d75_F40) 41 d75_F41) 61 c120_F61) 64 d75_F64)) H := hP
                    have hD : va_D A (mW h0 kB kI kZ q (upd (upd (upd (upd (upd (upd (upd (upd g 1 0) 23 d75_g23) 27 d75_g27) 30 d75_g30) 34 d75_g34) 36 d75_g36) 39 d75_g39) 66 c120_g66) (upF (upF (upF (upF (upF (upF (upF (upF (upF (upF (upF (upF (upF (upF (upF F 22 d75_F22) 24 d75_F24) 25 d75_F25) 26 d75_F26) 28 d75_F28) 29 d75_F29) 31 d75_F31) 32 d75_F32) 33 d75_F33) 37 d75_F37) 38 d75_F38) 40 d75_F40) 41 d75_F41) 61 c120_F61) 64 d75_F64)) := hD
                    refine lv_istore (lv' := [(6, .int r120), (5, .int r103), (0, .ref h0), (1, .int p0), (2, .int p1), (3, .int (g 1)), (4, .int y75_4)]) hx hb dX12_write_123 hl (by decide) rfl (fun ls hl => ?_)
                    refine lv_goto (tgt := 194) hx hb dX12_write_125 (by decide) ?_
                    exact Jj194 r103 r120 d75_g23 d75_g27 d75_g30 d75_g34 d75_g36 d75_g39 c120_g66 d75_F22 d75_F24 d75_F25 d75_F26 d75_F28 d75_F29 d75_F31 d75_F32 d75_F33 d75_F37 d75_F38 d75_F40 d75_F41 c120_F61 d75_F64 H _ ls hr hP hD hS (lv_sub hl [2, 3, 4, 5, 1, 0] rfl)
            first | exact lp75 NN 0 (g 23) (g 27) (g 30) (g 34) (g 36) (g 39) 0 (F 22) (F 24) (F 25) (F 26) (F 28) (F 29) (F 31) (F 32) (F 33) (F 37) (F 38) (F 40) (F 41) (F 61) c72_F64 H _ ls hr (sP_eq (mW_cg (by repeat (first | with_reducible rfl | with_reducible refine upd_cg ?_ | refine Eq.trans ?_ (upd_id rfl))) (by repeat (first | with_reducible rfl | with_reducible refine upF_cg ?_ | refine Eq.trans ?_ (upF_id rfl)))) hP) (sD_eq (mW_cg (by repeat (first | with_reducible rfl | with_reducible refine upd_cg ?_ | refine Eq.trans ?_ (upd_id rfl))) (by repeat (first | with_reducible rfl | with_reducible refine upF_cg ?_ | refine Eq.trans ?_ (upF_id rfl)))) hD) hS (lv_sub hl [1, 2, 3, 4, 0] rfl) | exact lp75 NN 0 (g 23) (g 27) (g 30) (g 34) (g 36) (g 39) 0 (F 22) (F 24) (F 25) (F 26) (F 28) (F 29) (F 31) (F 32) (F 33) (F 37) (F 38) (F 40) (F 41) (F 61) c72_F64 H _ ls hr hP hD hS (lv_sub hl [1, 2, 3, 4, 0] rfl)
          have lp52 : ∀ (n52 : Nat) (y52_4 : Int32) (d52_F64 : (Nat → Int32)) (H : Heap) (locs : List Loc) (ls : Array Slot), L_write_52 k72 n52 y52_4 d52_F64 = some (r, c_g1, c_g23, c_g27, c_g30, c_g34, c_g36, c_g39, c_g62, c_g65, c_g66, c_F22, c_F24, c_F25, c_F26, c_F28, c_F29, c_F31, c_F32, c_F33, c_F37, c_F38, c_F40, c_F41, c_F60, c_F61, c_F63, c_F64) → va_P (dC, dI) vwCl (mW h0 kB kI kZ q (upd (upd g 1 0) 66 0) (upF F 64 d52_F64)) H → va_D A (mW h0 kB kI kZ q (upd (upd g 1 0) 66 0) (upF F 64 d52_F64)) → va_S A s.heap H locs → lv_has ls 7 [(0, .ref h0), (1, .int p0), (2, .int p1), (3, .int (g 1)), (4, .int y52_4)] → W p l e ({ frames := 48, cells := 0, slots := 0, locals := 1170 } : Room) s m args below meth c H locs 0 0 Q (F0 m 52 ls []) := by
            intro n52
            induction n52 with
            | zero => intro y52_4 d52_F64 H locs ls hr; exact nomatch (show none = some (r, c_g1, c_g23, c_g27, c_g30, c_g34, c_g36, c_g39, c_g62, c_g65, c_g66, c_F22, c_F24, c_F25, c_F26, c_F28, c_F29, c_F31, c_F32, c_F33, c_F37, c_F38, c_F40, c_F41, c_F60, c_F61, c_F63, c_F64) from hr)
            | succ n52 ih52 =>
              intro y52_4 d52_F64 H locs ls hr hP hD hS hl
              replace hr : B_write_52 k72 (L_write_52 k72 n52) y52_4 d52_F64 = some (r, c_g1, c_g23, c_g27, c_g30, c_g34, c_g36, c_g39, c_g62, c_g65, c_g66, c_F22, c_F24, c_F25, c_F26, c_F28, c_F29, c_F31, c_F32, c_F33, c_F37, c_F38, c_F40, c_F41, c_F60, c_F61, c_F63, c_F64) := hr
              unfold B_write_52 at hr
              refine lv_iload hx hb dX12_write_52 (lv_at hl 4 rfl) ?_
              refine lv_iconst (v := 5) hx hb dX12_write_54 (by decide +kernel) ?_
              refine lv_icmp_ge (tgt := 72) hx hb dX12_write_55 (by decide) (fun c55 => ?_) (fun c55 => ?_)
              · replace hr := iteT c55 hr
                exact Jk72 d52_F64 H _ ls hr hP hD hS (lv_sub hl [0, 1, 2, 3] rfl)
              · replace hr := iteF c55 hr
                refine lv_aload_n hx hb dX12_write_58 rfl (lv_at hl 0 rfl) ?_
                refine va_get (D := (dC, dI)) (ci := 12) (v := .ref (q 64)) (C := RX12) (T := TX12) (N := 71) hx hb hts inX12 hown hK hP 0 rfl rfl 64 (by decide) (hts (.fieldLink RX12 140 "SpellTurnerModel" "newCounts" "[I") im_214) (fun _ h9 => h9) rfl dX12_write_59 ?_
                refine lv_iload hx hb dX12_write_62 (lv_at hl 4 rfl) ?_
                refine lv_iconst (v := 0) hx hb dX12_write_64 (by decide +kernel) ?_
                replace hr := iteS hr
                obtain ⟨hi65, hr⟩ := hr
                refine va_iast (f := d52_F64) hx hb hK hP hD hS 42 1 rfl rfl (inbV hi65) dX12_write_65 (fun H locs hP hD hS => ?_)
                obtain ⟨w65, ew65, hP, hD⟩ : ∃ w65 : Nat → Int32, w65 = (upd d52_F64 (Int32.toNatClampNeg y52_4) 0) ∧ va_P (dC, dI) vwCl (mW h0 kB kI kZ q (upd (upd g 1 0) 66 0) (upF F 64 w65)) H ∧ va_D A (mW h0 kB kI kZ q (upd (upd g 1 0) 66 0) (upF F 64 w65)) := ⟨(upd d52_F64 (Int32.toNatClampNeg y52_4) 0), rfl, by first | exact sP_F64 hP upF_same | exact sP_F64 hP rfl | exact hP, by first | exact sD_F64 hD upF_same | exact sD_F64 hD rfl | exact hD⟩
                replace hr := vlS hr w65 ew65
                clear ew65
                refine lv_iinc (v := (y52_4 + 1)) (lv' := [(4, .int (y52_4 + 1)), (0, .ref h0), (1, .int p0), (2, .int p1), (3, .int (g 1))]) hx hb dX12_write_66 hl (k := 4) rfl rfl (by decide) rfl (fun ls hl => ?_)
                refine lv_goto (tgt := 52) hx hb dX12_write_69 (by decide) ?_
                exact ih52 (y52_4 + 1) w65 H _ ls hr hP hD hS (lv_sub hl [1, 2, 3, 4, 0] rfl)
          first | exact lp52 NN 0 (F 64) H _ ls hr (sP_eq (mW_cg (by repeat (first | with_reducible rfl | with_reducible refine upd_cg ?_ | refine Eq.trans ?_ (upd_id rfl))) (by repeat (first | with_reducible rfl | with_reducible refine upF_cg ?_ | refine Eq.trans ?_ (upF_id rfl)))) hP) (sD_eq (mW_cg (by repeat (first | with_reducible rfl | with_reducible refine upd_cg ?_ | refine Eq.trans ?_ (upd_id rfl))) (by repeat (first | with_reducible rfl | with_reducible refine upF_cg ?_ | refine Eq.trans ?_ (upF_id rfl)))) hD) hS (lv_sub hl [2, 3, 4, 1, 0] rfl) | exact lp52 NN 0 (F 64) H _ ls hr hP hD hS (lv_sub hl [2, 3, 4, 1, 0] rfl)
        · replace hr := iteF c39 hr
          refine lv_iconst (v := (-1)) hx hb dX12_write_42 (by decide +kernel) ?_
          first | exact K 43 ls _ _ _ _ _ _ _ _ _ _ _ _ _ _ _ _ _ _ _ _ _ _ _ _ _ _ _ _ H _ hr dX12_write_43 (sP_eq (mW_cg (by repeat (first | with_reducible rfl | with_reducible refine upd_cg ?_ | refine Eq.trans ?_ (upd_id rfl))) (by repeat (first | with_reducible rfl | with_reducible refine upF_cg ?_ | refine Eq.trans ?_ (upF_id rfl)))) hP) (sD_eq (mW_cg (by repeat (first | with_reducible rfl | with_reducible refine upd_cg ?_ | refine Eq.trans ?_ (upd_id rfl))) (by repeat (first | with_reducible rfl | with_reducible refine upF_cg ?_ | refine Eq.trans ?_ (upF_id rfl)))) hD) hS | exact K 43 ls _ _ _ _ _ _ _ _ _ _ _ _ _ _ _ _ _ _ _ _ _ _ _ _ _ _ _ _ H _ hr dX12_write_43 hP hD hS
      · replace hr := iteF c28 hr
        exact Jj31 H _ ls hr hP hD hS (lv_sub hl [] rfl)
set_option maxHeartbeats 4000000 in
set_option maxRecDepth 100000 in
theorem m_write (l : Launch) (dC : Nat → ClassId) (dI : Nat → Nat → Nat) (sz : Nat) (h0 : Nat) (kB kI kZ : ClassId) (q : Nat → Nat) (g : Nat → Int32) (F : Nat → Nat → Int32) (p0 : Int32) (p1 : Int32) (r : Int32) (c_g1 : Int32) (c_g23 : Int32) (c_g27 : Int32) (c_g30 : Int32) (c_g34 : Int32) (c_g36 : Int32) (c_g39 : Int32) (c_g62 : Int32) (c_g65 : Int32) (c_g66 : Int32) (c_F22 : (Nat → Int32)) (c_F24 : (Nat → Int32)) (c_F25 : (Nat → Int32)) (c_F26 : (Nat → Int32)) (c_F28 : (Nat → Int32)) (c_F29 : (Nat → Int32)) (c_F31 : (Nat → Int32)) (c_F32 : (Nat → Int32)) (c_F33 : (Nat → Int32)) (c_F37 : (Nat → Int32)) (c_F38 : (Nat → Int32)) (c_F40 : (Nat → Int32)) (c_F41 : (Nat → Int32)) (c_F60 : (Nat → Int32)) (c_F61 : (Nat → Int32)) (c_F63 : (Nat → Int32)) (c_F64 : (Nat → Int32)) (hr : f_write g F p0 p1 = some (r, c_g1, c_g23, c_g27, c_g30, c_g34, c_g36, c_g39, c_g62, c_g65, c_g66, c_F22, c_F24, c_F25, c_F26, c_F28, c_F29, c_F31, c_F32, c_F33, c_F37, c_F38, c_F40, c_F41, c_F60, c_F61, c_F63, c_F64)) : Met l yX12_write vmX12_write ({ frames := 48, cells := 0, slots := 0, locals := 1170 } : Room) (va_Pc [.ref h0, .int p0, .int p1] (fun U => U.heap.size = sz ∧ va_P (dC, dI) vwCl (mW h0 kB kI kZ q g F) U.heap ∧ va_K (dC, dI) vwCl (mT kB kI kZ) U ∧ va_D (fun _ => True) (mW h0 kB kI kZ q g F))) (va_Qi (fun (rz : Int32) (_ : Unit) => rz = r) (fun _ t => va_P (dC, dI) vwCl (mW h0 kB kI kZ q (upd (upd (upd (upd (upd (upd (upd (upd (upd (upd g 1 c_g1) 23 c_g23) 27 c_g27) 30 c_g30) 34 c_g34) 36 c_g36) 39 c_g39) 62 c_g62) 65 c_g65) 66 c_g66) (upF (upF (upF (upF (upF (upF (upF (upF (upF (upF (upF (upF (upF (upF (upF (upF (upF F 22 c_F22) 24 c_F24) 25 c_F25) 26 c_F26) 28 c_F28) 29 c_F29) 31 c_F31) 32 c_F32) 33 c_F33) 37 c_F37) 38 c_F38) 40 c_F40) 41 c_F41) 60 c_F60) 61 c_F61) 63 c_F63) 64 c_F64)) t.heap ∧ va_K (dC, dI) vwCl (mT kB kI kZ) t ∧ va_D (va_A (mW h0 kB kI kZ q g F) sz) (mW h0 kB kI kZ q (upd (upd (upd (upd (upd (upd (upd (upd (upd (upd g 1 c_g1) 23 c_g23) 27 c_g27) 30 c_g30) 34 c_g34) 36 c_g36) 39 c_g39) 62 c_g62) 65 c_g65) 66 c_g66) (upF (upF (upF (upF (upF (upF (upF (upF (upF (upF (upF (upF (upF (upF (upF (upF (upF F 22 c_F22) 24 c_F24) 25 c_F25) 26 c_F26) 28 c_F28) 29 c_F29) 31 c_F31) 32 c_F32) 33 c_F33) 37 c_F37) 38 c_F38) 40 c_F40) 41 c_F41) 60 c_F60) 61 c_F61) 63 c_F63) 64 c_F64))) (va_A (mW h0 kB kI kZ q g F) sz)) 0 0 (va_A (mW h0 kB kI kZ q g F) sz) := by
  refine Met.ofW (cc := cX12_write) (maxL := 7) (ret := (some .int)) (by decide) rfl ?_
  intro p e s m args below meth c s₁ B hml hv
  obtain ⟨rfl, hsz, hP, hK, hD0⟩ := hv
  have hx := B.exec
  have hb := B.bytes
  have hrt := B.returns
  have hts := atoms_spec (ws := vmX12_write) B.pre
  have hown : s.vm.findClass RX12 = some m.cls := findClass_of_methodNamed B.named
  subst hsz
  have hD := hD0.self (sz := s.heap.size)
  generalize hAe : va_A (mW h0 kB kI kZ q g F) s.heap.size = A at hD ⊢
  have hA : ∀ q : Nat, s.heap.size ≤ q → A q := fun q h => by rw [← hAe]; exact Or.inr h
  have hS : va_S A s.heap s.heap [] := va_S.rf
  have hl := lv_entry ([.ref h0, .int p0, .int p1]) (n := 7) (Nat.le_of_ble_eq_true rfl)
  rw [lg_entry_eq]
  generalize (lg_sl ([.ref h0, .int p0, .int p1]) ++ List.replicate (7 - (lg_sl ([.ref h0, .int p0, .int p1])).length) Slot.unset).toArray = ls at hl ⊢
  exact bm_write p0 p1 r c_g1 c_g23 c_g27 c_g30 c_g34 c_g36 c_g39 c_g62 c_g65 c_g66 c_F22 c_F24 c_F25 c_F26 c_F28 c_F29 c_F31 c_F32 c_F33 c_F37 c_F38 c_F40 c_F41 c_F60 c_F61 c_F63 c_F64 hr hx hb hml hown hts hA hK hP hD hS hl (fun pc ls rz c_g1z c_g23z c_g27z c_g30z c_g34z c_g36z c_g39z c_g62z c_g65z c_g66z c_F22z c_F24z c_F25z c_F26z c_F28z c_F29z c_F31z c_F32z c_F33z c_F37z c_F38z c_F40z c_F41z c_F60z c_F61z c_F63z c_F64z H locs he hd hP hD hS => by cases he; exact W.iret (v := r) hx hb hrt (fun t ht hW => ⟨⟨r, (), rfl, rfl, by rw [ht]; exact hP, va_K.moved hW.alike hK, hD⟩, hS.F ht⟩) hS.2.2 hd)
set_option maxHeartbeats 4000000 in
set_option maxRecDepth 100000 in
theorem bm_mixed {p : Program} {l : Launch} {e : Env} {s : State} {m : MethodId} {args : Array Value} {below : List Frame} {meth : Method} {c : Code} {Q : State → Prop} {A : Nat → Prop} {dC : Nat → ClassId} {dI : Nat → Nat → Nat} {h0 : Nat} {kB kI kZ : ClassId} {q : Nat → Nat} {g : Nat → Int32} {F : Nat → Nat → Int32} {H : Heap} {locs : List Loc} {ls : Array Slot} (p0 : Int32) (r : Int32) (c_g1 : Int32) (c_g23 : Int32) (c_g27 : Int32) (c_g30 : Int32) (c_g34 : Int32) (c_g36 : Int32) (c_g39 : Int32) (c_g51 : Int32) (c_g70 : Int32) (c_F22 : (Nat → Int32)) (c_F24 : (Nat → Int32)) (c_F25 : (Nat → Int32)) (c_F26 : (Nat → Int32)) (c_F28 : (Nat → Int32)) (c_F29 : (Nat → Int32)) (c_F31 : (Nat → Int32)) (c_F32 : (Nat → Int32)) (c_F33 : (Nat → Int32)) (c_F37 : (Nat → Int32)) (c_F38 : (Nat → Int32)) (c_F40 : (Nat → Int32)) (c_F41 : (Nat → Int32)) (c_F52 : (Nat → Int32)) (c_F53 : (Nat → Int32)) (c_F54 : (Nat → Int32)) (c_F67 : (Nat → Int32)) (c_F68 : (Nat → Int32)) (c_F69 : (Nat → Int32)) (hr : f_mixed g F p0 = some (r, c_g1, c_g23, c_g27, c_g30, c_g34, c_g36, c_g39, c_g51, c_g70, c_F22, c_F24, c_F25, c_F26, c_F28, c_F29, c_F31, c_F32, c_F33, c_F37, c_F38, c_F40, c_F41, c_F52, c_F53, c_F54, c_F67, c_F68, c_F69)) (hx : p.tables.exec = Jvm.exec) (hb : c.code = cX12_mixed) (hml : c.maxLocals = 11) (hown : s.vm.findClass RX12 = some m.cls) (hts : ∀ w ∈ vmX12_mixed, w.before args s = true) (hA : ∀ q : Nat, s.heap.size ≤ q → A q) (hK : va_K (dC, dI) vwCl (mT kB kI kZ) s) (hP : va_P (dC, dI) vwCl (mW h0 kB kI kZ q g F) H) (hD : va_D A (mW h0 kB kI kZ q g F)) (hS : va_S A s.heap H locs) (hl : lv_has ls 11 [(0, .ref h0), (1, .int p0)])
    (K : ∀ (pc : Nat) (ls : Array Slot) (rz : Int32) (c_g1z : Int32) (c_g23z : Int32) (c_g27z : Int32) (c_g30z : Int32) (c_g34z : Int32) (c_g36z : Int32) (c_g39z : Int32) (c_g51z : Int32) (c_g70z : Int32) (c_F22z : (Nat → Int32)) (c_F24z : (Nat → Int32)) (c_F25z : (Nat → Int32)) (c_F26z : (Nat → Int32)) (c_F28z : (Nat → Int32)) (c_F29z : (Nat → Int32)) (c_F31z : (Nat → Int32)) (c_F32z : (Nat → Int32)) (c_F33z : (Nat → Int32)) (c_F37z : (Nat → Int32)) (c_F38z : (Nat → Int32)) (c_F40z : (Nat → Int32)) (c_F41z : (Nat → Int32)) (c_F52z : (Nat → Int32)) (c_F53z : (Nat → Int32)) (c_F54z : (Nat → Int32)) (c_F67z : (Nat → Int32)) (c_F68z : (Nat → Int32)) (c_F69z : (Nat → Int32)) (H : Heap) (locs : List Loc), some (rz, c_g1z, c_g23z, c_g27z, c_g30z, c_g34z, c_g36z, c_g39z, c_g51z, c_g70z, c_F22z, c_F24z, c_F25z, c_F26z, c_F28z, c_F29z, c_F31z, c_F32z, c_F33z, c_F37z, c_F38z, c_F40z, c_F41z, c_F52z, c_F53z, c_F54z, c_F67z, c_F68z, c_F69z) = some (r, c_g1, c_g23, c_g27, c_g30, c_g34, c_g36, c_g39, c_g51, c_g70, c_F22, c_F24, c_F25, c_F26, c_F28, c_F29, c_F31, c_F32, c_F33, c_F37, c_F38, c_F40, c_F41, c_F52, c_F53, c_F54, c_F67, c_F68, c_F69) → decode cX12_mixed pc = .ok (.ireturn, 1) → va_P (dC, dI) vwCl (mW h0 kB kI kZ q (upd (upd (upd (upd (upd (upd (upd (upd (upd g 1 c_g1z) 23 c_g23z) 27 c_g27z) 30 c_g30z) 34 c_g34z) 36 c_g36z) 39 c_g39z) 51 c_g51z) 70 c_g70z) (upF (upF (upF (upF (upF (upF (upF (upF (upF (upF (upF (upF (upF (upF (upF (upF (upF (upF (upF F 22 c_F22z) 24 c_F24z) 25 c_F25z) 26 c_F26z) 28 c_F28z) 29 c_F29z) 31 c_F31z) 32 c_F32z) 33 c_F33z) 37 c_F37z) 38 c_F38z) 40 c_F40z) 41 c_F41z) 52 c_F52z) 53 c_F53z) 54 c_F54z) 67 c_F67z) 68 c_F68z) 69 c_F69z)) H → va_D A (mW h0 kB kI kZ q (upd (upd (upd (upd (upd (upd (upd (upd (upd g 1 c_g1z) 23 c_g23z) 27 c_g27z) 30 c_g30z) 34 c_g34z) 36 c_g36z) 39 c_g39z) 51 c_g51z) 70 c_g70z) (upF (upF (upF (upF (upF (upF (upF (upF (upF (upF (upF (upF (upF (upF (upF (upF (upF (upF (upF F 22 c_F22z) 24 c_F24z) 25 c_F25z) 26 c_F26z) 28 c_F28z) 29 c_F29z) 31 c_F31z) 32 c_F32z) 33 c_F33z) 37 c_F37z) 38 c_F38z) 40 c_F40z) 41 c_F41z) 52 c_F52z) 53 c_F53z) 54 c_F54z) 67 c_F67z) 68 c_F68z) 69 c_F69z)) → va_S A s.heap H locs → W p l e ({ frames := 48, cells := 0, slots := 0, locals := 1171 } : Room) s m args below meth c H locs 0 0 Q (F0 m pc ls [.int rz])) : W p l e ({ frames := 48, cells := 0, slots := 0, locals := 1171 } : Room) s m args below meth c H locs 0 0 Q (F0 m 0 ls []) := by
  unfold f_mixed at hr
  refine lv_aload_n hx hb dX12_mixed_0 rfl (lv_at hl 0 rfl) ?_
  refine va_get (D := (dC, dI)) (ci := 12) (v := .int (g 1)) (C := RX12) (T := TX12) (N := 71) hx hb hts inX12 hown hK hP 0 rfl rfl 1 (by decide) (hts (.fieldLink RX12 152 "SpellTurnerModel" "taped" "I") im_45) (fun _ h9 => h9) rfl dX12_mixed_1 ?_
  refine lv_istore_n (lv' := [(2, .int (g 1)), (0, .ref h0), (1, .int p0)]) hx hb dX12_mixed_4 rfl hl (by decide) rfl (fun ls hl => ?_)
  refine lv_aload_n hx hb dX12_mixed_5 rfl (lv_at hl 1 rfl) ?_
  refine lv_iconst (v := 0) hx hb dX12_mixed_6 (by decide +kernel) ?_
  refine va_put (D := (dC, dI)) (ci := 12) (v := .int 0) (ty := .int) (C := RX12) (T := TX12) (N := 71) hx hb hts inX12 tyX12 tyX12_ok nmX12 hown hK hP hD hS 0 rfl rfl 1 (by decide) (hts (.fieldLink RX12 152 "SpellTurnerModel" "taped" "I") im_45) (fun _ h9 => h9) rfl (by decide +kernel) rfl rfl (Nat.le_of_ble_eq_true rfl) dX12_mixed_7 (fun H locs hP hD hS => ?_)
  have hP : va_P (dC, dI) vwCl (mW h0 kB kI kZ q (upd g 1 0) F) H := by first | exact sP_g1 hP rfl | exact sP_g1 hP upd_same | exact hP
  have hD : va_D A (mW h0 kB kI kZ q (upd g 1 0) F) := by first | exact sD_g1 hD rfl | exact sD_g1 hD upd_same | exact hD
  refine lv_iload_n hx hb dX12_mixed_10 rfl (lv_at hl 2 rfl) ?_
  refine lv_iconst (v := 0) hx hb dX12_mixed_11 (by decide +kernel) ?_
  refine lv_bipush (v := 50) hx hb dX12_mixed_12 (by decide +kernel) ?_
  replace hr := b1S hr
  obtain ⟨r14z, hc14, hr⟩ := hr
  have hFc := fr_all hD hS hA
  refine va_calli (va_runS (As := [.int p0, .int 0, .int 50]) (rest := []) ⟨hx, hb, hml, hown, hts⟩ (m_in l dC dI H.size h0 kB kI kZ q (upd g 1 0) F p0 0 50 r14z hc14) (va_cwS 3 hts gw_X12_in_226 rfl rfl rfl (by decide +kernel) ⟨Nat.le_of_ble_eq_true rfl, Nat.le_of_ble_eq_true rfl⟩) ⟨fun a U g mk q => by obtain ⟨q0, q1, qP, qK, qD⟩ := q; exact ⟨q0, q1, qP, va_K.moved (u := U) (U := U.calling g mk a) (Vm.Alike.refl U.vm) qK, qD⟩, fun U hU hW => ⟨rfl, by rw [hU], by rw [hU]; exact hP, va_K.moved hW.alike hK, hD.weaken (fun _ _ _ _ => trivial)⟩⟩ rfl rfl hl.1 rfl (lv_room (Nat.le_of_ble_eq_true rfl)) dX12_mixed_14 ⟨Nat.le_of_ble_eq_true rfl, Nat.le_of_ble_eq_true rfl⟩) hS (fun q _ h => hFc q h) hFc (fun r14 u t H1 locs ht hvm hw hB hz1 hk1 hS => ?_)
  replace hw : r14 = r14z := hw
  subst hw
  obtain ⟨hP1, hK1, hD1⟩ := hB
  rw [ht] at hP1
  obtain ⟨hP, hD⟩ := jn_all (w1 := (mW h0 kB kI kZ q (upd g 1 0) F)) hFc hP1 hD1
  clear hFc hP1 hK1 hD1 hk1 hz1 ht hvm
  generalize H1 = H at hP hS ⊢
  have hP : va_P (dC, dI) vwCl (mW h0 kB kI kZ q (upd g 1 0) F) H := hP
  have hD : va_D A (mW h0 kB kI kZ q (upd g 1 0) F) := hD
  refine lv_if_ne (tgt := 23) hx hb dX12_mixed_17 (by decide) (fun c17 => ?_) (fun c17 => ?_)
  · replace hr := iteF c17 hr
    refine lv_aload_n hx hb dX12_mixed_23 rfl (lv_at hl 1 rfl) ?_
    refine lv_iload_n hx hb dX12_mixed_24 rfl (lv_at hl 0 rfl) ?_
    replace hr := b1S hr
    obtain ⟨r25z, hc25, hr⟩ := hr
    have hFc := fr_all hD hS hA
    refine va_calli (va_runV (As := [.int (g 1)]) (rest := []) ⟨hx, hb, hml, hown, hts⟩ (m_hasNought l dC dI H.size h0 kB kI kZ q (upd g 1 0) F (g 1) r25z hc25) (cwV 1 hts gw_X12_hasNought_348 rfl rfl rfl (by decide +kernel) ⟨Nat.le_of_ble_eq_true rfl, Nat.le_of_ble_eq_true rfl⟩) ⟨fun a U g mk q => by obtain ⟨q0, q1, qP, qK, qD⟩ := q; exact ⟨q0, q1, qP, va_K.moved (u := U) (U := U.calling g mk a) (Vm.Alike.refl U.vm) qK, qD⟩, va_recv hK hP (ci := 12) (q0 := 0) rfl rfl, fun U hU hW => ⟨rfl, by rw [hU], by rw [hU]; exact hP, va_K.moved hW.alike hK, hD.weaken (fun _ _ _ _ => trivial)⟩⟩ rfl rfl hl.1 rfl (lv_room (Nat.le_of_ble_eq_true rfl)) dX12_mixed_25 ⟨Nat.le_of_ble_eq_true rfl, Nat.le_of_ble_eq_true rfl⟩) hS (fun q _ h => hFc q h) hFc (fun r25 u t H1 locs ht hvm hw hB hz1 hk1 hS => ?_)
    replace hw : r25 = r25z := hw
    subst hw
    obtain ⟨hP1, hK1, hD1⟩ := hB
    rw [ht] at hP1
    obtain ⟨hP, hD⟩ := jn_all (w1 := (mW h0 kB kI kZ q (upd g 1 0) F)) hFc hP1 hD1
    clear hFc hP1 hK1 hD1 hk1 hz1 ht hvm
    generalize H1 = H at hP hS ⊢
    have hP : va_P (dC, dI) vwCl (mW h0 kB kI kZ q (upd g 1 0) F) H := hP
    have hD : va_D A (mW h0 kB kI kZ q (upd g 1 0) F) := hD
    refine lv_if_eq (tgt := 33) hx hb dX12_mixed_28 (by decide) (fun c28 => ?_) (fun c28 => ?_)
    · replace hr := iteT c28 hr
      refine lv_iconst (v := 1) hx hb dX12_mixed_33 (by decide +kernel) ?_
      refine lv_istore_n (lv' := [(3, .int 1), (2, .int (g 1)), (0, .ref h0), (1, .int p0)]) hx hb dX12_mixed_34 rfl hl (by decide) rfl (fun ls hl => ?_)
      refine lv_iconst (v := 0) hx hb dX12_mixed_35 (by decide +kernel) ?_
      refine lv_istore (lv' := [(4, .int 0), (3, .int 1), (2, .int (g 1)), (0, .ref h0), (1, .int p0)]) hx hb dX12_mixed_36 hl (by decide) rfl (fun ls hl => ?_)
      replace hr := jnS hr
      obtain ⟨k70, hk70, hr⟩ := hr
      have Jk70 : ∀ (x70_3 : Int32) (H : Heap) (locs : List Loc) (ls : Array Slot), k70 x70_3 = some (r, c_g1, c_g23, c_g27, c_g30, c_g34, c_g36, c_g39, c_g51, c_g70, c_F22, c_F24, c_F25, c_F26, c_F28, c_F29, c_F31, c_F32, c_F33, c_F37, c_F38, c_F40, c_F41, c_F52, c_F53, c_F54, c_F67, c_F68, c_F69) → va_P (dC, dI) vwCl (mW h0 kB kI kZ q (upd g 1 0) F) H → va_D A (mW h0 kB kI kZ q (upd g 1 0) F) → va_S A s.heap H locs → lv_has ls 11 [(0, .ref h0), (1, .int p0), (2, .int (g 1)), (3, .int x70_3)] → W p l e ({ frames := 48, cells := 0, slots := 0, locals := 1171 } : Room) s m args below meth c H locs 0 0 Q (F0 m 70 ls []) := by
        intro x70_3 H locs ls hr hP hD hS hl
        rw [hk70] at hr
        refine lv_iload_n hx hb dX12_mixed_70 rfl (lv_at hl 3 rfl) ?_
        refine lv_bipush (v := 40) hx hb dX12_mixed_71 (by decide +kernel) ?_
        refine lv_icmp_le (tgt := 78) hx hb dX12_mixed_73 (by decide) (fun c73 => ?_) (fun c73 => ?_)
        · replace hr := iteT c73 hr
          refine lv_aload_n hx hb dX12_mixed_78 rfl (lv_at hl 0 rfl) ?_
          replace hr := b23S hr
          obtain ⟨c79_g23, c79_g27, c79_g30, c79_g34, c79_g36, c79_g39, c79_g51, c79_F22, c79_F24, c79_F25, c79_F26, c79_F28, c79_F29, c79_F31, c79_F32, c79_F33, c79_F37, c79_F38, c79_F40, c79_F41, c79_F52, c79_F53, c79_F54, hc79, hr⟩ := hr
          have hFc := fr_all hD hS hA
          refine va_callv (va_runV (As := []) (rest := []) ⟨hx, hb, hml, hown, hts⟩ (m_make l dC dI H.size h0 kB kI kZ q (upd g 1 0) F c79_g23 c79_g27 c79_g30 c79_g34 c79_g36 c79_g39 c79_g51 c79_F22 c79_F24 c79_F25 c79_F26 c79_F28 c79_F29 c79_F31 c79_F32 c79_F33 c79_F37 c79_F38 c79_F40 c79_F41 c79_F52 c79_F53 c79_F54 hc79) (cwV 0 hts gw_X12_make_315 rfl rfl rfl (by decide +kernel) ⟨Nat.le_of_ble_eq_true rfl, Nat.le_of_ble_eq_true rfl⟩) ⟨fun a U g mk q => by obtain ⟨q0, q1, qP, qK, qD⟩ := q; exact ⟨q0, q1, qP, va_K.moved (u := U) (U := U.calling g mk a) (Vm.Alike.refl U.vm) qK, qD⟩, va_recv hK hP (ci := 12) (q0 := 0) rfl rfl, fun U hU hW => ⟨rfl, by rw [hU], by rw [hU]; exact hP, va_K.moved hW.alike hK, hD.weaken (fun _ _ _ _ => trivial)⟩⟩ rfl rfl hl.1 rfl (lv_room (Nat.le_of_ble_eq_true rfl)) dX12_mixed_79 ⟨Nat.le_of_ble_eq_true rfl, Nat.le_of_ble_eq_true rfl⟩) hS (fun q _ h => hFc q h) hFc (fun u t H1 locs ht hvm hw hB hz1 hk1 hS => ?_)
          obtain ⟨hP1, hK1, hD1⟩ := hB
          rw [ht] at hP1
          obtain ⟨hP, hD⟩ := jn_all (w1 := (mW h0 kB kI kZ q (upd (upd (upd (upd (upd (upd (upd (upd g 1 0) 23 c79_g23) 27 c79_g27) 30 c79_g30) 34 c79_g34) 36 c79_g36) 39 c79_g39) 51 c79_g51) (upF (upF (upF (upF (upF (upF (upF (upF (upF (upF (upF (upF (upF (upF (upF (upF F 22 c79_F22) 24 c79_F24) 25 c79_F25) 26 c79_F26) 28 c79_F28) 29 c79_F29) 31 c79_F31) 32 c79_F32) 33 c79_F33) 37 c79_F37) 38 c79_F38) 40 c79_F40) 41 c79_F41) 52 c79_F52) 53 c79_F53) 54 c79_F54))) hFc hP1 hD1
          clear hFc hP1 hK1 hD1 hk1 hz1 ht hvm
          generalize H1 = H at hP hS ⊢
          have hP : va_P (dC, dI) vwCl (mW h0 kB kI kZ q (upd (upd (upd (upd (upd (upd (upd (upd g 1 0) 23 c79_g23) 27 c79_g27) 30 c79_g30) 34 c79_g34) 36 c79_g36) 39 c79_g39) 51 c79_g51) (upF (upF (upF (upF (upF (upF (upF (upF (upF (upF (upF (upF (upF (upF (upF (upF F 22 c79_F22) 24 c79_F24) 25 c79_F25) 26 c79_F26) 28 c79_F28) 29 c79_F29) 31 c79_F31) 32 c79_F32) 33 c79_F33) 37 c79_F37) 38 c79_F38) 40 c79_F40) 41 c79_F41) 52 c79_F52) 53 c79_F53) 54 c79_F54)) H := hP
          have hD : va_D A (mW h0 kB kI kZ q (upd (upd (upd (upd (upd (upd (upd (upd g 1 0) 23 c79_g23) 27 c79_g27) 30 c79_g30) 34 c79_g34) 36 c79_g36) 39 c79_g39) 51 c79_g51) (upF (upF (upF (upF (upF (upF (upF (upF (upF (upF (upF (upF (upF (upF (upF (upF F 22 c79_F22) 24 c79_F24) 25 c79_F25) 26 c79_F26) 28 c79_F28) 29 c79_F29) 31 c79_F31) 32 c79_F32) 33 c79_F33) 37 c79_F37) 38 c79_F38) 40 c79_F40) 41 c79_F41) 52 c79_F52) 53 c79_F53) 54 c79_F54)) := hD
          refine lv_iconst (v := 0) hx hb dX12_mixed_82 (by decide +kernel) ?_
          refine lv_istore (lv' := [(4, .int 0), (0, .ref h0), (1, .int p0), (2, .int (g 1)), (3, .int x70_3)]) hx hb dX12_mixed_83 hl (by decide) rfl (fun ls hl => ?_)
          replace hr := jnS hr
          obtain ⟨k107, hk107, hr⟩ := hr
          have Jk107 : ∀ (c107_F67 : (Nat → Int32)) (H : Heap) (locs : List Loc) (ls : Array Slot), k107 c107_F67 = some (r, c_g1, c_g23, c_g27, c_g30, c_g34, c_g36, c_g39, c_g51, c_g70, c_F22, c_F24, c_F25, c_F26, c_F28, c_F29, c_F31, c_F32, c_F33, c_F37, c_F38, c_F40, c_F41, c_F52, c_F53, c_F54, c_F67, c_F68, c_F69) → va_P (dC, dI) vwCl (mW h0 kB kI kZ q (upd (upd (upd (upd (upd (upd (upd (upd g 1 0) 23 c79_g23) 27 c79_g27) 30 c79_g30) 34 c79_g34) 36 c79_g36) 39 c79_g39) 51 c79_g51) (upF (upF (upF (upF (upF (upF (upF (upF (upF (upF (upF (upF (upF (upF (upF (upF (upF F 22 c79_F22) 24 c79_F24) 25 c79_F25) 26 c79_F26) 28 c79_F28) 29 c79_F29) 31 c79_F31) 32 c79_F32) 33 c79_F33) 37 c79_F37) 38 c79_F38) 40 c79_F40) 41 c79_F41) 52 c79_F52) 53 c79_F53) 54 c79_F54) 67 c107_F67)) H → va_D A (mW h0 kB kI kZ q (upd (upd (upd (upd (upd (upd (upd (upd g 1 0) 23 c79_g23) 27 c79_g27) 30 c79_g30) 34 c79_g34) 36 c79_g36) 39 c79_g39) 51 c79_g51) (upF (upF (upF (upF (upF (upF (upF (upF (upF (upF (upF (upF (upF (upF (upF (upF (upF F 22 c79_F22) 24 c79_F24) 25 c79_F25) 26 c79_F26) 28 c79_F28) 29 c79_F29) 31 c79_F31) 32 c79_F32) 33 c79_F33) 37 c79_F37) 38 c79_F38) 40 c79_F40) 41 c79_F41) 52 c79_F52) 53 c79_F53) 54 c79_F54) 67 c107_F67)) → va_S A s.heap H locs → lv_has ls 11 [(0, .ref h0), (1, .int p0), (2, .int (g 1)), (3, .int x70_3)] → W p l e ({ frames := 48, cells := 0, slots := 0, locals := 1171 } : Room) s m args below meth c H locs 0 0 Q (F0 m 107 ls []) := by
            intro c107_F67 H locs ls hr hP hD hS hl
            rw [hk107] at hr
            refine lv_iconst (v := 0) hx hb dX12_mixed_107 (by decide +kernel) ?_
            refine lv_istore (lv' := [(4, .int 0), (0, .ref h0), (1, .int p0), (2, .int (g 1)), (3, .int x70_3)]) hx hb dX12_mixed_108 hl (by decide) rfl (fun ls hl => ?_)
            refine lv_iconst (v := 0) hx hb dX12_mixed_110 (by decide +kernel) ?_
            refine lv_istore (lv' := [(5, .int 0), (4, .int 0), (0, .ref h0), (1, .int p0), (2, .int (g 1)), (3, .int x70_3)]) hx hb dX12_mixed_111 hl (by decide) rfl (fun ls hl => ?_)
            replace hr := jnS hr
            obtain ⟨k314, hk314, hr⟩ := hr
            have Jk314 : ∀ (c314_F67 : (Nat → Int32)) (H : Heap) (locs : List Loc) (ls : Array Slot), k314 c314_F67 = some (r, c_g1, c_g23, c_g27, c_g30, c_g34, c_g36, c_g39, c_g51, c_g70, c_F22, c_F24, c_F25, c_F26, c_F28, c_F29, c_F31, c_F32, c_F33, c_F37, c_F38, c_F40, c_F41, c_F52, c_F53, c_F54, c_F67, c_F68, c_F69) → va_P (dC, dI) vwCl (mW h0 kB kI kZ q (upd (upd (upd (upd (upd (upd (upd (upd g 1 0) 23 c79_g23) 27 c79_g27) 30 c79_g30) 34 c79_g34) 36 c79_g36) 39 c79_g39) 51 c79_g51) (upF (upF (upF (upF (upF (upF (upF (upF (upF (upF (upF (upF (upF (upF (upF (upF (upF F 22 c79_F22) 24 c79_F24) 25 c79_F25) 26 c79_F26) 28 c79_F28) 29 c79_F29) 31 c79_F31) 32 c79_F32) 33 c79_F33) 37 c79_F37) 38 c79_F38) 40 c79_F40) 41 c79_F41) 52 c79_F52) 53 c79_F53) 54 c79_F54) 67 c314_F67)) H → va_D A (mW h0 kB kI kZ q (upd (upd (upd (upd (upd (upd (upd (upd g 1 0) 23 c79_g23) 27 c79_g27) 30 c79_g30) 34 c79_g34) 36 c79_g36) 39 c79_g39) 51 c79_g51) (upF (upF (upF (upF (upF (upF (upF (upF (upF (upF (upF (upF (upF (upF (upF (upF (upF F 22 c79_F22) 24 c79_F24) 25 c79_F25) 26 c79_F26) 28 c79_F28) 29 c79_F29) 31 c79_F31) 32 c79_F32) 33 c79_F33) 37 c79_F37) 38 c79_F38) 40 c79_F40) 41 c79_F41) 52 c79_F52) 53 c79_F53) 54 c79_F54) 67 c314_F67)) → va_S A s.heap H locs → lv_has ls 11 [(0, .ref h0), (1, .int p0), (3, .int x70_3)] → W p l e ({ frames := 48, cells := 0, slots := 0, locals := 1171 } : Room) s m args below meth c H locs 0 0 Q (F0 m 314 ls []) := by
              intro c314_F67 H locs ls hr hP hD hS hl
              rw [hk314] at hr
              refine lv_iconst (v := 0) hx hb dX12_mixed_314 (by decide +kernel) ?_
              refine lv_istore (lv' := [(6, .int 0), (0, .ref h0), (1, .int p0), (3, .int x70_3)]) hx hb dX12_mixed_315 hl (by decide) rfl (fun ls hl => ?_)
              replace hr := jnS hr
              obtain ⟨k345, hk345, hr⟩ := hr
              have Jk345 : ∀ (c345_F68 : (Nat → Int32)) (H : Heap) (locs : List Loc) (ls : Array Slot), k345 c345_F68 = some (r, c_g1, c_g23, c_g27, c_g30, c_g34, c_g36, c_g39, c_g51, c_g70, c_F22, c_F24, c_F25, c_F26, c_F28, c_F29, c_F31, c_F32, c_F33, c_F37, c_F38, c_F40, c_F41, c_F52, c_F53, c_F54, c_F67, c_F68, c_F69) → va_P (dC, dI) vwCl (mW h0 kB kI kZ q (upd (upd (upd (upd (upd (upd (upd (upd g 1 0) 23 c79_g23) 27 c79_g27) 30 c79_g30) 34 c79_g34) 36 c79_g36) 39 c79_g39) 51 c79_g51) (upF (upF (upF (upF (upF (upF (upF (upF (upF (upF (upF (upF (upF (upF (upF (upF (upF (upF F 22 c79_F22) 24 c79_F24) 25 c79_F25) 26 c79_F26) 28 c79_F28) 29 c79_F29) 31 c79_F31) 32 c79_F32) 33 c79_F33) 37 c79_F37) 38 c79_F38) 40 c79_F40) 41 c79_F41) 52 c79_F52) 53 c79_F53) 54 c79_F54) 67 c314_F67) 68 c345_F68)) H → va_D A (mW h0 kB kI kZ q (upd (upd (upd (upd (upd (upd (upd (upd g 1 0) 23 c79_g23) 27 c79_g27) 30 c79_g30) 34 c79_g34) 36 c79_g36) 39 c79_g39) 51 c79_g51) (upF (upF (upF (upF (upF (upF (upF (upF (upF (upF (upF (upF (upF (upF (upF (upF (upF (upF F 22 c79_F22) 24 c79_F24) 25 c79_F25) 26 c79_F26) 28 c79_F28) 29 c79_F29) 31 c79_F31) 32 c79_F32) 33 c79_F33) 37 c79_F37) 38 c79_F38) 40 c79_F40) 41 c79_F41) 52 c79_F52) 53 c79_F53) 54 c79_F54) 67 c314_F67) 68 c345_F68)) → va_S A s.heap H locs → lv_has ls 11 [(0, .ref h0), (1, .int p0), (3, .int x70_3)] → W p l e ({ frames := 48, cells := 0, slots := 0, locals := 1171 } : Room) s m args below meth c H locs 0 0 Q (F0 m 345 ls []) := by
                intro c345_F68 H locs ls hr hP hD hS hl
                rw [hk345] at hr
                refine lv_iload_n hx hb dX12_mixed_345 rfl (lv_at hl 2 rfl) ?_
                refine lv_iconst (v := 1) hx hb dX12_mixed_346 (by decide +kernel) ?_
                refine lv_isub hx hb dX12_mixed_347 ?_
                refine lv_topi (fun x348 ex348 => ?_)
                replace hr := vlS hr x348 ex348
                clear ex348
                refine lv_istore (lv' := [(6, .int x348), (0, .ref h0), (1, .int p0), (3, .int x70_3)]) hx hb dX12_mixed_348 hl (by decide) rfl (fun ls hl => ?_)
                replace hr := jnS hr
                obtain ⟨k429, hk429, hr⟩ := hr
                have Jk429 : ∀ (c429_F68 : (Nat → Int32)) (H : Heap) (locs : List Loc) (ls : Array Slot), k429 c429_F68 = some (r, c_g1, c_g23, c_g27, c_g30, c_g34, c_g36, c_g39, c_g51, c_g70, c_F22, c_F24, c_F25, c_F26, c_F28, c_F29, c_F31, c_F32, c_F33, c_F37, c_F38, c_F40, c_F41, c_F52, c_F53, c_F54, c_F67, c_F68, c_F69) → va_P (dC, dI) vwCl (mW h0 kB kI kZ q (upd (upd (upd (upd (upd (upd (upd (upd g 1 0) 23 c79_g23) 27 c79_g27) 30 c79_g30) 34 c79_g34) 36 c79_g36) 39 c79_g39) 51 c79_g51) (upF (upF (upF (upF (upF (upF (upF (upF (upF (upF (upF (upF (upF (upF (upF (upF (upF (upF F 22 c79_F22) 24 c79_F24) 25 c79_F25) 26 c79_F26) 28 c79_F28) 29 c79_F29) 31 c79_F31) 32 c79_F32) 33 c79_F33) 37 c79_F37) 38 c79_F38) 40 c79_F40) 41 c79_F41) 52 c79_F52) 53 c79_F53) 54 c79_F54) 67 c314_F67) 68 c429_F68)) H → va_D A (mW h0 kB kI kZ q (upd (upd (upd (upd (upd (upd (upd (upd g 1 0) 23 c79_g23) 27 c79_g27) 30 c79_g30) 34 c79_g34) 36 c79_g36) 39 c79_g39) 51 c79_g51) (upF (upF (upF (upF (upF (upF (upF (upF (upF (upF (upF (upF (upF (upF (upF (upF (upF (upF F 22 c79_F22) 24 c79_F24) 25 c79_F25) 26 c79_F26) 28 c79_F28) 29 c79_F29) 31 c79_F31) 32 c79_F32) 33 c79_F33) 37 c79_F37) 38 c79_F38) 40 c79_F40) 41 c79_F41) 52 c79_F52) 53 c79_F53) 54 c79_F54) 67 c314_F67) 68 c429_F68)) → va_S A s.heap H locs → lv_has ls 11 [(0, .ref h0), (1, .int p0), (3, .int x70_3)] → W p l e ({ frames := 48, cells := 0, slots := 0, locals := 1171 } : Room) s m args below meth c H locs 0 0 Q (F0 m 429 ls []) := by
                  intro c429_F68 H locs ls hr hP hD hS hl
                  rw [hk429] at hr
                  refine lv_aload_n hx hb dX12_mixed_429 rfl (lv_at hl 0 rfl) ?_
                  refine lv_iload_n hx hb dX12_mixed_430 rfl (lv_at hl 2 rfl) ?_
                  refine va_put (D := (dC, dI)) (ci := 12) (v := .int x70_3) (ty := .int) (C := RX12) (T := TX12) (N := 71) hx hb hts inX12 tyX12 tyX12_ok nmX12 hown hK hP hD hS 0 rfl rfl 70 (by decide) (hts (.fieldLink RX12 374 "SpellTurnerModel" "lines" "I") im_101) (fun _ h9 => h9) rfl (by decide +kernel) rfl rfl (Nat.le_of_ble_eq_true rfl) dX12_mixed_431 (fun H locs hP hD hS => ?_)
                  have hP : va_P (dC, dI) vwCl (mW h0 kB kI kZ q (upd (upd (upd (upd (upd (upd (upd (upd (upd g 1 0) 23 c79_g23) 27 c79_g27) 30 c79_g30) 34 c79_g34) 36 c79_g36) 39 c79_g39) 51 c79_g51) 70 x70_3) (upF (upF (upF (upF (upF (upF (upF (upF (upF (upF (upF (upF (upF (upF (upF (upF (upF (upF F 22 c79_F22) 24 c79_F24) 25 c79_F25) 26 c79_F26) 28 c79_F28) 29 c79_F29) 31 c79_F31) 32 c79_F32) 33 c79_F33) 37 c79_F37) 38 c79_F38) 40 c79_F40) 41 c79_F41) 52 c79_F52) 53 c79_F53) 54 c79_F54) 67 c314_F67) 68 c429_F68)) H := by first | exact sP_g70 hP rfl | exact sP_g70 hP upd_same | exact hP
                  have hD : va_D A (mW h0 kB kI kZ q (upd (upd (upd (upd (upd (upd (upd (upd (upd g 1 0) 23 c79_g23) 27 c79_g27) 30 c79_g30) 34 c79_g34) 36 c79_g36) 39 c79_g39) 51 c79_g51) 70 x70_3) (upF (upF (upF (upF (upF (upF (upF (upF (upF (upF (upF (upF (upF (upF (upF (upF (upF (upF F 22 c79_F22) 24 c79_F24) 25 c79_F25) 26 c79_F26) 28 c79_F28) 29 c79_F29) 31 c79_F31) 32 c79_F32) 33 c79_F33) 37 c79_F37) 38 c79_F38) 40 c79_F40) 41 c79_F41) 52 c79_F52) 53 c79_F53) 54 c79_F54) 67 c314_F67) 68 c429_F68)) := by first | exact sD_g70 hD rfl | exact sD_g70 hD upd_same | exact hD
                  refine lv_aload_n hx hb dX12_mixed_434 rfl (lv_at hl 0 rfl) ?_
                  refine lv_iconst (v := 0) hx hb dX12_mixed_435 (by decide +kernel) ?_
                  refine lv_iconst (v := (-1)) hx hb dX12_mixed_436 (by decide +kernel) ?_
                  refine lv_iload_n hx hb dX12_mixed_437 rfl (lv_at hl 1 rfl) ?_
                  replace hr := b1S hr
                  obtain ⟨r438z, hc438, hr⟩ := hr
                  have hFc := fr_all hD hS hA
                  refine va_calli (va_runV (As := [.int 0, .int (-1), .int p0]) (rest := []) ⟨hx, hb, hml, hown, hts⟩ (m_onward l dC dI H.size h0 kB kI kZ q (upd (upd (upd (upd (upd (upd (upd (upd (upd g 1 0) 23 c79_g23) 27 c79_g27) 30 c79_g30) 34 c79_g34) 36 c79_g36) 39 c79_g39) 51 c79_g51) 70 x70_3) (upF (upF (upF (upF (upF (upF (upF (upF (upF (upF (upF (upF (upF (upF (upF (upF (upF (upF F 22 c79_F22) 24 c79_F24) 25 c79_F25) 26 c79_F26) 28 c79_F28) 29 c79_F29) 31 c79_F31) 32 c79_F32) 33 c79_F33) 37 c79_F37) 38 c79_F38) 40 c79_F40) 41 c79_F41) 52 c79_F52) 53 c79_F53) 54 c79_F54) 67 c314_F67) 68 c429_F68) 0 (-1) p0 r438z hc438) (cwV 3 hts gw_X12_onward_370 rfl rfl rfl (by decide +kernel) ⟨Nat.le_of_ble_eq_true rfl, Nat.le_of_ble_eq_true rfl⟩) ⟨fun a U g mk q => by obtain ⟨q0, q1, qP, qK, qD⟩ := q; exact ⟨q0, q1, qP, va_K.moved (u := U) (U := U.calling g mk a) (Vm.Alike.refl U.vm) qK, qD⟩, va_recv hK hP (ci := 12) (q0 := 0) rfl rfl, fun U hU hW => ⟨rfl, by rw [hU], by rw [hU]; exact hP, va_K.moved hW.alike hK, hD.weaken (fun _ _ _ _ => trivial)⟩⟩ rfl rfl hl.1 rfl (lv_room (Nat.le_of_ble_eq_true rfl)) dX12_mixed_438 ⟨Nat.le_of_ble_eq_true rfl, Nat.le_of_ble_eq_true rfl⟩) hS (fun q _ h => hFc q h) hFc (fun r438 u t H1 locs ht hvm hw hB hz1 hk1 hS => ?_)
                  replace hw : r438 = r438z := hw
                  subst hw
                  obtain ⟨hP1, hK1, hD1⟩ := hB
                  rw [ht] at hP1
                  obtain ⟨hP, hD⟩ := jn_all (w1 := (mW h0 kB kI kZ q (upd (upd (upd (upd (upd (upd (upd (upd (upd g 1 0) 23 c79_g23) 27 c79_g27) 30 c79_g30) 34 c79_g34) 36 c79_g36) 39 c79_g39) 51 c79_g51) 70 x70_3) (upF (upF (upF (upF (upF (upF (upF (upF (upF (upF (upF (upF (upF (upF (upF (upF (upF (upF F 22 c79_F22) 24 c79_F24) 25 c79_F25) 26 c79_F26) 28 c79_F28) 29 c79_F29) 31 c79_F31) 32 c79_F32) 33 c79_F33) 37 c79_F37) 38 c79_F38) 40 c79_F40) 41 c79_F41) 52 c79_F52) 53 c79_F53) 54 c79_F54) 67 c314_F67) 68 c429_F68))) hFc hP1 hD1
                  clear hFc hP1 hK1 hD1 hk1 hz1 ht hvm
                  generalize H1 = H at hP hS ⊢
                  have hP : va_P (dC, dI) vwCl (mW h0 kB kI kZ q (upd (upd (upd (upd (upd (upd (upd (upd (upd g 1 0) 23 c79_g23) 27 c79_g27) 30 c79_g30) 34 c79_g34) 36 c79_g36) 39 c79_g39) 51 c79_g51) 70 x70_3) (upF (upF (upF (upF (upF (upF (upF (upF (upF (upF (upF (upF (upF (upF (upF (upF (upF (upF F 22 c79_F22) 24 c79_F24) 25 c79_F25) 26 c79_F26) 28 c79_F28) 29 c79_F29) 31 c79_F31) 32 c79_F32) 33 c79_F33) 37 c79_F37) 38 c79_F38) 40 c79_F40) 41 c79_F41) 52 c79_F52) 53 c79_F53) 54 c79_F54) 67 c314_F67) 68 c429_F68)) H := hP
                  have hD : va_D A (mW h0 kB kI kZ q (upd (upd (upd (upd (upd (upd (upd (upd (upd g 1 0) 23 c79_g23) 27 c79_g27) 30 c79_g30) 34 c79_g34) 36 c79_g36) 39 c79_g39) 51 c79_g51) 70 x70_3) (upF (upF (upF (upF (upF (upF (upF (upF (upF (upF (upF (upF (upF (upF (upF (upF (upF (upF F 22 c79_F22) 24 c79_F24) 25 c79_F25) 26 c79_F26) 28 c79_F28) 29 c79_F29) 31 c79_F31) 32 c79_F32) 33 c79_F33) 37 c79_F37) 38 c79_F38) 40 c79_F40) 41 c79_F41) 52 c79_F52) 53 c79_F53) 54 c79_F54) 67 c314_F67) 68 c429_F68)) := hD
                  refine lv_istore (lv' := [(6, .int r438), (0, .ref h0), (1, .int p0), (3, .int x70_3)]) hx hb dX12_mixed_441 hl (by decide) rfl (fun ls hl => ?_)
                  refine lv_iconst (v := (-1)) hx hb dX12_mixed_443 (by decide +kernel) ?_
                  refine lv_istore (lv' := [(7, .int (-1)), (6, .int r438), (0, .ref h0), (1, .int p0), (3, .int x70_3)]) hx hb dX12_mixed_444 hl (by decide) rfl (fun ls hl => ?_)
                  refine lv_iconst (v := 0) hx hb dX12_mixed_446 (by decide +kernel) ?_
                  refine lv_istore (lv' := [(8, .int 0), (7, .int (-1)), (6, .int r438), (0, .ref h0), (1, .int p0), (3, .int x70_3)]) hx hb dX12_mixed_447 hl (by decide) rfl (fun ls hl => ?_)
                  have lp449 : ∀ (n449 : Nat) (y449_7 : Int32) (y449_8 : Int32) (d449_F69 : (Nat → Int32)) (H : Heap) (locs : List Loc) (ls : Array Slot), L_mixed_449 g F p0 x70_3 c79_g23 c79_g27 c79_g30 c79_g34 c79_g36 c79_g39 c79_g51 c79_F22 c79_F24 c79_F25 c79_F26 c79_F28 c79_F29 c79_F31 c79_F32 c79_F33 c79_F37 c79_F38 c79_F40 c79_F41 c79_F52 c79_F53 c79_F54 c314_F67 c429_F68 r438 n449 y449_7 y449_8 d449_F69 = some (r, c_g1, c_g23, c_g27, c_g30, c_g34, c_g36, c_g39, c_g51, c_g70, c_F22, c_F24, c_F25, c_F26, c_F28, c_F29, c_F31, c_F32, c_F33, c_F37, c_F38, c_F40, c_F41, c_F52, c_F53, c_F54, c_F67, c_F68, c_F69) → va_P (dC, dI) vwCl (mW h0 kB kI kZ q (upd (upd (upd (upd (upd (upd (upd (upd (upd g 1 0) 23 c79_g23) 27 c79_g27) 30 c79_g30) 34 c79_g34) 36 c79_g36) 39 c79_g39) 51 c79_g51) 70 x70_3) (upF (upF (upF (upF (upF (upF (upF (upF (upF (upF (upF (upF (upF (upF (upF (upF (upF (upF (upF F 22 c79_F22) 24 c79_F24) 25 c79_F25) 26 c79_F26) 28 c79_F28) 29 c79_F29) 31 c79_F31) 32 c79_F32) 33 c79_F33) 37 c79_F37) 38 c79_F38) 40 c79_F40) 41 c79_F41) 52 c79_F52) 53 c79_F53) 54 c79_F54) 67 c314_F67) 68 c429_F68) 69 d449_F69)) H → va_D A (mW h0 kB kI kZ q (upd (upd (upd (upd (upd (upd (upd (upd (upd g 1 0) 23 c79_g23) 27 c79_g27) 30 c79_g30) 34 c79_g34) 36 c79_g36) 39 c79_g39) 51 c79_g51) 70 x70_3) (upF (upF (upF (upF (upF (upF (upF (upF (upF (upF (upF (upF (upF (upF (upF (upF (upF (upF (upF F 22 c79_F22) 24 c79_F24) 25 c79_F25) 26 c79_F26) 28 c79_F28) 29 c79_F29) 31 c79_F31) 32 c79_F32) 33 c79_F33) 37 c79_F37) 38 c79_F38) 40 c79_F40) 41 c79_F41) 52 c79_F52) 53 c79_F53) 54 c79_F54) 67 c314_F67) 68 c429_F68) 69 d449_F69)) → va_S A s.heap H locs → lv_has ls 11 [(0, .ref h0), (1, .int p0), (3, .int x70_3), (6, .int r438), (7, .int y449_7), (8, .int y449_8)] → W p l e ({ frames := 48, cells := 0, slots := 0, locals := 1171 } : Room) s m args below meth c H locs 0 0 Q (F0 m 449 ls []) := by
                    intro n449
                    induction n449 with
                    | zero => intro y449_7 y449_8 d449_F69 H locs ls hr; exact nomatch (show none = some (r, c_g1, c_g23, c_g27, c_g30, c_g34, c_g36, c_g39, c_g51, c_g70, c_F22, c_F24, c_F25, c_F26, c_F28, c_F29, c_F31, c_F32, c_F33, c_F37, c_F38, c_F40, c_F41, c_F52, c_F53, c_F54, c_F67, c_F68, c_F69) from hr)
                    | succ n449 ih449 =>
                      intro y449_7 y449_8 d449_F69 H locs ls hr hP hD hS hl
                      replace hr : B_mixed_449 g F p0 x70_3 c79_g23 c79_g27 c79_g30 c79_g34 c79_g36 c79_g39 c79_g51 c79_F22 c79_F24 c79_F25 c79_F26 c79_F28 c79_F29 c79_F31 c79_F32 c79_F33 c79_F37 c79_F38 c79_F40 c79_F41 c79_F52 c79_F53 c79_F54 c314_F67 c429_F68 r438 (L_mixed_449 g F p0 x70_3 c79_g23 c79_g27 c79_g30 c79_g34 c79_g36 c79_g39 c79_g51 c79_F22 c79_F24 c79_F25 c79_F26 c79_F28 c79_F29 c79_F31 c79_F32 c79_F33 c79_F37 c79_F38 c79_F40 c79_F41 c79_F52 c79_F53 c79_F54 c314_F67 c429_F68 r438 n449) y449_7 y449_8 d449_F69 = some (r, c_g1, c_g23, c_g27, c_g30, c_g34, c_g36, c_g39, c_g51, c_g70, c_F22, c_F24, c_F25, c_F26, c_F28, c_F29, c_F31, c_F32, c_F33, c_F37, c_F38, c_F40, c_F41, c_F52, c_F53, c_F54, c_F67, c_F68, c_F69) := hr
                      unfold B_mixed_449 at hr
                      refine lv_iload hx hb dX12_mixed_449 (lv_at hl 5 rfl) ?_
                      refine lv_iload_n hx hb dX12_mixed_451 rfl (lv_at hl 2 rfl) ?_
                      refine lv_icmp_ge (tgt := 531) hx hb dX12_mixed_452 (by decide) (fun c452 => ?_) (fun c452 => ?_)
                      · replace hr := iteT c452 hr
                        refine lv_iload hx hb dX12_mixed_531 (lv_at hl 3 rfl) ?_
                        first | exact K 533 ls _ _ _ _ _ _ _ _ _ _ _ _ _ _ _ _ _ _ _ _ _ _ _ _ _ _ _ _ _ H _ hr dX12_mixed_533 (sP_eq (mW_cg (by repeat (first | with_reducible rfl | with_reducible refine upd_cg ?_ | refine Eq.trans ?_ (upd_id rfl))) (by repeat (first | with_reducible rfl | with_reducible refine upF_cg ?_ | refine Eq.trans ?_ (upF_id rfl)))) hP) (sD_eq (mW_cg (by repeat (first | with_reducible rfl | with_reducible refine upd_cg ?_ | refine Eq.trans ?_ (upd_id rfl))) (by repeat (first | with_reducible rfl | with_reducible refine upF_cg ?_ | refine Eq.trans ?_ (upF_id rfl)))) hD) hS | exact K 533 ls _ _ _ _ _ _ _ _ _ _ _ _ _ _ _ _ _ _ _ _ _ _ _ _ _ _ _ _ _ H _ hr dX12_mixed_533 hP hD hS
                      · replace hr := iteF c452 hr
                        refine lv_aload_n hx hb dX12_mixed_455 rfl (lv_at hl 0 rfl) ?_
                        refine lv_iload hx hb dX12_mixed_456 (lv_at hl 5 rfl) ?_
                        refine lv_iload hx hb dX12_mixed_458 (lv_at hl 4 rfl) ?_
                        refine lv_iload_n hx hb dX12_mixed_460 rfl (lv_at hl 1 rfl) ?_
                        replace hr := b1S hr
                        obtain ⟨r461z, hc461, hr⟩ := hr
                        have hFc := fr_all hD hS hA
                        refine va_calli (va_runV (As := [.int y449_8, .int y449_7, .int p0]) (rest := []) ⟨hx, hb, hml, hown, hts⟩ (m_onward l dC dI H.size h0 kB kI kZ q (upd (upd (upd (upd (upd (upd (upd (upd (upd g 1 0) 23 c79_g23) 27 c79_g27) 30 c79_g30) 34 c79_g34) 36 c79_g36) 39 c79_g39) 51 c79_g51) 70 x70_3) (upF (upF (upF (upF (upF (upF (upF (upF (upF (upF (upF (upF (upF (upF (upF (upF (upF (upF (upF F 22 c79_F22) 24 c79_F24) 25 c79_F25) 26 c79_F26) 28 c79_F28) 29 c79_F29) 31 c79_F31) 32 c79_F32) 33 c79_F33) 37 c79_F37) 38 c79_F38) 40 c79_F40) 41 c79_F41) 52 c79_F52) 53 c79_F53) 54 c79_F54) 67 c314_F67) 68 c429_F68) 69 d449_F69) y449_8 y449_7 p0 r461z hc461) (cwV 3 hts gw_X12_onward_370 rfl rfl rfl (by decide +kernel) ⟨Nat.le_of_ble_eq_true rfl, Nat.le_of_ble_eq_true rfl⟩) ⟨fun a U g mk q => by obtain ⟨q0, q1, qP, qK, qD⟩ := q; exact ⟨q0, q1, qP, va_K.moved (u := U) (U := U.calling g mk a) (Vm.Alike.refl U.vm) qK, qD⟩, va_recv hK hP (ci := 12) (q0 := 0) rfl rfl, fun U hU hW => ⟨rfl, by rw [hU], by rw [hU]; exact hP, va_K.moved hW.alike hK, hD.weaken (fun _ _ _ _ => trivial)⟩⟩ rfl rfl hl.1 rfl (lv_room (Nat.le_of_ble_eq_true rfl)) dX12_mixed_461 ⟨Nat.le_of_ble_eq_true rfl, Nat.le_of_ble_eq_true rfl⟩) hS (fun q _ h => hFc q h) hFc (fun r461 u t H1 locs ht hvm hw hB hz1 hk1 hS => ?_)
                        replace hw : r461 = r461z := hw
                        subst hw
                        obtain ⟨hP1, hK1, hD1⟩ := hB
                        rw [ht] at hP1
                        obtain ⟨hP, hD⟩ := jn_all (w1 := (mW h0 kB kI kZ q (upd (upd (upd (upd (upd (upd (upd (upd (upd g 1 0) 23 c79_g23) 27 c79_g27) 30 c79_g30) 34 c79_g34) 36 c79_g36) 39 c79_g39) 51 c79_g51) 70 x70_3) (upF (upF (upF (upF (upF (upF (upF (upF (upF (upF (upF (upF (upF (upF (upF (upF (upF (upF (upF F 22 c79_F22) 24 c79_F24) 25 c79_F25) 26 c79_F26) 28 c79_F28) 29 c79_F29) 31 c79_F31) 32 c79_F32) 33 c79_F33) 37 c79_F37) 38 c79_F38) 40 c79_F40) 41 c79_F41) 52 c79_F52) 53 c79_F53) 54 c79_F54) 67 c314_F67) 68 c429_F68) 69 d449_F69))) hFc hP1 hD1
                        clear hFc hP1 hK1 hD1 hk1 hz1 ht hvm
                        generalize H1 = H at hP hS ⊢
                        have hP : va_P (dC, dI) vwCl (mW h0 kB kI kZ q (upd (upd (upd (upd (upd (upd (upd (upd (upd g 1 0) 23 c79_g23) 27 c79_g27) 30 c79_g30) 34 c79_g34) 36 c79_g36) 39 c79_g39) 51 c79_g51) 70 x70_3) (upF (upF (upF (upF (upF (upF (upF (upF (upF (upF (upF (upF (upF (upF (upF (upF (upF (upF (upF F 22 c79_F22) 24 c79_F24) 25 c79_F25) 26 c79_F26) 28 c79_F28) 29 c79_F29) 31 c79_F31) 32 c79_F32) 33 c79_F33) 37 c79_F37) 38 c79_F38) 40 c79_F40) 41 c79_F41) 52 c79_F52) 53 c79_F53) 54 c79_F54) 67 c314_F67) 68 c429_F68) 69 d449_F69)) H := hP
                        have hD : va_D A (mW h0 kB kI kZ q (upd (upd (upd (upd (upd (upd (upd (upd (upd g 1 0) 23 c79_g23) 27 c79_g27) 30 c79_g30) 34 c79_g34) 36 c79_g36) 39 c79_g39) 51 c79_g51) 70 x70_3) (upF (upF (upF (upF (upF (upF (upF (upF (upF (upF (upF (upF (upF (upF (upF (upF (upF (upF (upF F 22 c79_F22) 24 c79_F24) 25 c79_F25) 26 c79_F26) 28 c79_F28) 29 c79_F29) 31 c79_F31) 32 c79_F32) 33 c79_F33) 37 c79_F37) 38 c79_F38) 40 c79_F40) 41 c79_F41) 52 c79_F52) 53 c79_F53) 54 c79_F54) 67 c314_F67) 68 c429_F68) 69 d449_F69)) := hD
                        refine lv_istore (lv' := [(9, .int r461), (0, .ref h0), (1, .int p0), (3, .int x70_3), (6, .int r438), (7, .int y449_7), (8, .int y449_8)]) hx hb dX12_mixed_464 hl (by decide) rfl (fun ls hl => ?_)
                        refine lv_iconst (v := 0) hx hb dX12_mixed_466 (by decide +kernel) ?_
                        refine lv_istore (lv' := [(10, .int 0), (9, .int r461), (0, .ref h0), (1, .int p0), (3, .int x70_3), (6, .int r438), (7, .int y449_7), (8, .int y449_8)]) hx hb dX12_mixed_467 hl (by decide) rfl (fun ls hl => ?_)
                        replace hr := jnS hr
                        obtain ⟨k512, hk512, hr⟩ := hr
                        have Jk512 : ∀ (x512_10 : Int32) (H : Heap) (locs : List Loc) (ls : Array Slot), k512 x512_10 = some (r, c_g1, c_g23, c_g27, c_g30, c_g34, c_g36, c_g39, c_g51, c_g70, c_F22, c_F24, c_F25, c_F26, c_F28, c_F29, c_F31, c_F32, c_F33, c_F37, c_F38, c_F40, c_F41, c_F52, c_F53, c_F54, c_F67, c_F68, c_F69) → va_P (dC, dI) vwCl (mW h0 kB kI kZ q (upd (upd (upd (upd (upd (upd (upd (upd (upd g 1 0) 23 c79_g23) 27 c79_g27) 30 c79_g30) 34 c79_g34) 36 c79_g36) 39 c79_g39) 51 c79_g51) 70 x70_3) (upF (upF (upF (upF (upF (upF (upF (upF (upF (upF (upF (upF (upF (upF (upF (upF (upF (upF (upF F 22 c79_F22) 24 c79_F24) 25 c79_F25) 26 c79_F26) 28 c79_F28) 29 c79_F29) 31 c79_F31) 32 c79_F32) 33 c79_F33) 37 c79_F37) 38 c79_F38) 40 c79_F40) 41 c79_F41) 52 c79_F52) 53 c79_F53) 54 c79_F54) 67 c314_F67) 68 c429_F68) 69 d449_F69)) H → va_D A (mW h0 kB kI kZ q (upd (upd (upd (upd (upd (upd (upd (upd (upd g 1 0) 23 c79_g23) 27 c79_g27) 30 c79_g30) 34 c79_g34) 36 c79_g36) 39 c79_g39) 51 c79_g51) 70 x70_3) (upF (upF (upF (upF (upF (upF (upF (upF (upF (upF (upF (upF (upF (upF (upF (upF (upF (upF (upF F 22 c79_F22) 24 c79_F24) 25 c79_F25) 26 c79_F26) 28 c79_F28) 29 c79_F29) 31 c79_F31) 32 c79_F32) 33 c79_F33) 37 c79_F37) 38 c79_F38) 40 c79_F40) 41 c79_F41) 52 c79_F52) 53 c79_F53) 54 c79_F54) 67 c314_F67) 68 c429_F68) 69 d449_F69)) → va_S A s.heap H locs → lv_has ls 11 [(0, .ref h0), (1, .int p0), (3, .int x70_3), (6, .int r438), (8, .int y449_8), (10, .int x512_10)] → W p l e ({ frames := 48, cells := 0, slots := 0, locals := 1171 } : Room) s m args below meth c H locs 0 0 Q (F0 m 512 ls []) := by
                          intro x512_10 H locs ls hr hP hD hS hl
                          rw [hk512] at hr
                          refine lv_aload_n hx hb dX12_mixed_512 rfl (lv_at hl 0 rfl) ?_
                          refine va_get (D := (dC, dI)) (ci := 12) (v := .ref (q 69)) (C := RX12) (T := TX12) (N := 71) hx hb hts inX12 hown hK hP 0 rfl rfl 69 (by decide) (hts (.fieldLink RX12 149 "SpellTurnerModel" "stageOf" "[I") im_102) (fun _ h9 => h9) rfl dX12_mixed_513 ?_
                          refine lv_iload hx hb dX12_mixed_516 (lv_at hl 4 rfl) ?_
                          refine lv_iload hx hb dX12_mixed_518 (lv_at hl 5 rfl) ?_
                          replace hr := iteS hr
                          obtain ⟨hi520, hr⟩ := hr
                          refine va_iast (f := d449_F69) hx hb hK hP hD hS 45 1 rfl rfl (inbV hi520) dX12_mixed_520 (fun H locs hP hD hS => ?_)
                          obtain ⟨w520, ew520, hP, hD⟩ : ∃ w520 : Nat → Int32, w520 = (upd d449_F69 (Int32.toNatClampNeg y449_8) x512_10) ∧ va_P (dC, dI) vwCl (mW h0 kB kI kZ q (upd (upd (upd (upd (upd (upd (upd (upd (upd g 1 0) 23 c79_g23) 27 c79_g27) 30 c79_g30) 34 c79_g34) 36 c79_g36) 39 c79_g39) 51 c79_g51) 70 x70_3) (upF (upF (upF (upF (upF (upF (upF (upF (upF (upF (upF (upF (upF (upF (upF (upF (upF (upF (upF F 22 c79_F22) 24 c79_F24) 25 c79_F25) 26 c79_F26) 28 c79_F28) 29 c79_F29) 31 c79_F31) 32 c79_F32) 33 c79_F33) 37 c79_F37) 38 c79_F38) 40 c79_F40) 41 c79_F41) 52 c79_F52) 53 c79_F53) 54 c79_F54) 67 c314_F67) 68 c429_F68) 69 w520)) H ∧ va_D A (mW h0 kB kI kZ q (upd (upd (upd (upd (upd (upd (upd (upd (upd g 1 0) 23 c79_g23) 27 c79_g27) 30 c79_g30) 34 c79_g34) 36 c79_g36) 39 c79_g39) 51 c79_g51) 70 x70_3) (upF (upF (upF (upF (upF (upF (upF (upF (upF (upF (upF (upF (upF (upF (upF (upF (upF (upF (upF F 22 c79_F22) 24 c79_F24) 25 c79_F25) 26 c79_F26) 28 c79_F28) 29 c79_F29) 31 c79_F31) 32 c79_F32) 33 c79_F33) 37 c79_F37) 38 c79_F38) 40 c79_F40) 41 c79_F41) 52 c79_F52) 53 c79_F53) 54 c79_F54) 67 c314_F67) 68 c429_F68) 69 w520)) := ⟨(upd d449_F69 (Int32.toNatClampNeg y449_8) x512_10), rfl, by first | exact sP_F69 hP upF_same | exact sP_F69 hP rfl | exact hP, by first | exact sD_F69 hD upF_same | exact sD_F69 hD rfl | exact hD⟩
                          replace hr := vlS hr w520 ew520
                          clear ew520
                          refine lv_iload hx hb dX12_mixed_521 (lv_at hl 5 rfl) ?_
                          refine lv_istore (lv' := [(7, .int x512_10), (0, .ref h0), (1, .int p0), (3, .int x70_3), (6, .int r438), (8, .int y449_8), (10, .int x512_10)]) hx hb dX12_mixed_523 hl (by decide) rfl (fun ls hl => ?_)
                          refine lv_iinc (v := (y449_8 + 1)) (lv' := [(8, .int (y449_8 + 1)), (7, .int x512_10), (0, .ref h0), (1, .int p0), (3, .int x70_3), (6, .int r438), (10, .int x512_10)]) hx hb dX12_mixed_525 hl (k := 5) rfl rfl (by decide) rfl (fun ls hl => ?_)
                          refine lv_goto (tgt := 449) hx hb dX12_mixed_528 (by decide) ?_
                          exact ih449 x512_10 (y449_8 + 1) w520 H _ ls hr hP hD hS (lv_sub hl [2, 3, 4, 5, 1, 0] rfl)
                        have lp469 : ∀ (n469 : Nat) (y469_10 : Int32) (H : Heap) (locs : List Loc) (ls : Array Slot), L_mixed_469 p0 c429_F68 y449_7 y449_8 r461 k512 n469 y469_10 = some (r, c_g1, c_g23, c_g27, c_g30, c_g34, c_g36, c_g39, c_g51, c_g70, c_F22, c_F24, c_F25, c_F26, c_F28, c_F29, c_F31, c_F32, c_F33, c_F37, c_F38, c_F40, c_F41, c_F52, c_F53, c_F54, c_F67, c_F68, c_F69) → va_P (dC, dI) vwCl (mW h0 kB kI kZ q (upd (upd (upd (upd (upd (upd (upd (upd (upd g 1 0) 23 c79_g23) 27 c79_g27) 30 c79_g30) 34 c79_g34) 36 c79_g36) 39 c79_g39) 51 c79_g51) 70 x70_3) (upF (upF (upF (upF (upF (upF (upF (upF (upF (upF (upF (upF (upF (upF (upF (upF (upF (upF (upF F 22 c79_F22) 24 c79_F24) 25 c79_F25) 26 c79_F26) 28 c79_F28) 29 c79_F29) 31 c79_F31) 32 c79_F32) 33 c79_F33) 37 c79_F37) 38 c79_F38) 40 c79_F40) 41 c79_F41) 52 c79_F52) 53 c79_F53) 54 c79_F54) 67 c314_F67) 68 c429_F68) 69 d449_F69)) H → va_D A (mW h0 kB kI kZ q (upd (upd (upd (upd (upd (upd (upd (upd (upd g 1 0) 23 c79_g23) 27 c79_g27) 30 c79_g30) 34 c79_g34) 36 c79_g36) 39 c79_g39) 51 c79_g51) 70 x70_3) (upF (upF (upF (upF (upF (upF (upF (upF (upF (upF (upF (upF (upF (upF (upF (upF (upF (upF (upF F 22 c79_F22) 24 c79_F24) 25 c79_F25) 26 c79_F26) 28 c79_F28) 29 c79_F29) 31 c79_F31) 32 c79_F32) 33 c79_F33) 37 c79_F37) 38 c79_F38) 40 c79_F40) 41 c79_F41) 52 c79_F52) 53 c79_F53) 54 c79_F54) 67 c314_F67) 68 c429_F68) 69 d449_F69)) → va_S A s.heap H locs → lv_has ls 11 [(0, .ref h0), (1, .int p0), (3, .int x70_3), (6, .int r438), (7, .int y449_7), (8, .int y449_8), (9, .int r461), (10, .int y469_10)] → W p l e ({ frames := 48, cells := 0, slots := 0, locals := 1171 } : Room) s m args below meth c H locs 0 0 Q (F0 m 469 ls []) := by
                          intro n469
                          induction n469 with
                          | zero => intro y469_10 H locs ls hr; exact nomatch (show none = some (r, c_g1, c_g23, c_g27, c_g30, c_g34, c_g36, c_g39, c_g51, c_g70, c_F22, c_F24, c_F25, c_F26, c_F28, c_F29, c_F31, c_F32, c_F33, c_F37, c_F38, c_F40, c_F41, c_F52, c_F53, c_F54, c_F67, c_F68, c_F69) from hr)
                          | succ n469 ih469 =>
                            intro y469_10 H locs ls hr hP hD hS hl
                            replace hr : B_mixed_469 p0 c429_F68 y449_7 y449_8 r461 k512 (L_mixed_469 p0 c429_F68 y449_7 y449_8 r461 k512 n469) y469_10 = some (r, c_g1, c_g23, c_g27, c_g30, c_g34, c_g36, c_g39, c_g51, c_g70, c_F22, c_F24, c_F25, c_F26, c_F28, c_F29, c_F31, c_F32, c_F33, c_F37, c_F38, c_F40, c_F41, c_F52, c_F53, c_F54, c_F67, c_F68, c_F69) := hr
                            unfold B_mixed_469 at hr
                            refine lv_aload_n hx hb dX12_mixed_469 rfl (lv_at hl 0 rfl) ?_
                            refine va_get (D := (dC, dI)) (ci := 12) (v := .ref (q 68)) (C := RX12) (T := TX12) (N := 71) hx hb hts inX12 hown hK hP 0 rfl rfl 68 (by decide) (hts (.fieldLink RX12 146 "SpellTurnerModel" "sum" "[I") im_129) (fun _ h9 => h9) rfl dX12_mixed_470 ?_
                            refine lv_bipush (v := 7) hx hb dX12_mixed_473 (by decide +kernel) ?_
                            refine lv_iload hx hb dX12_mixed_475 (lv_at hl 5 rfl) ?_
                            refine lv_imul hx hb dX12_mixed_477 ?_
                            refine lv_iload hx hb dX12_mixed_478 (lv_at hl 7 rfl) ?_
                            refine lv_iadd hx hb dX12_mixed_480 ?_
                            replace hr := iteS hr
                            obtain ⟨hi481, hr⟩ := hr
                            refine va_iald (f := c429_F68) hx hb hK hP 44 1 rfl rfl (inbV hi481) dX12_mixed_481 ?_
                            refine lv_iload hx hb dX12_mixed_482 (lv_at hl 4 rfl) ?_
                            refine lv_iconst (v := (-1)) hx hb dX12_mixed_484 (by decide +kernel) ?_
                            replace hr := jnS hr
                            obtain ⟨j500, hj500, hr⟩ := hr
                            have Jj500 : ∀ (t500_0 : Int32) (H : Heap) (locs : List Loc) (ls : Array Slot), j500 t500_0 = some (r, c_g1, c_g23, c_g27, c_g30, c_g34, c_g36, c_g39, c_g51, c_g70, c_F22, c_F24, c_F25, c_F26, c_F28, c_F29, c_F31, c_F32, c_F33, c_F37, c_F38, c_F40, c_F41, c_F52, c_F53, c_F54, c_F67, c_F68, c_F69) → va_P (dC, dI) vwCl (mW h0 kB kI kZ q (upd (upd (upd (upd (upd (upd (upd (upd (upd g 1 0) 23 c79_g23) 27 c79_g27) 30 c79_g30) 34 c79_g34) 36 c79_g36) 39 c79_g39) 51 c79_g51) 70 x70_3) (upF (upF (upF (upF (upF (upF (upF (upF (upF (upF (upF (upF (upF (upF (upF (upF (upF (upF (upF F 22 c79_F22) 24 c79_F24) 25 c79_F25) 26 c79_F26) 28 c79_F28) 29 c79_F29) 31 c79_F31) 32 c79_F32) 33 c79_F33) 37 c79_F37) 38 c79_F38) 40 c79_F40) 41 c79_F41) 52 c79_F52) 53 c79_F53) 54 c79_F54) 67 c314_F67) 68 c429_F68) 69 d449_F69)) H → va_D A (mW h0 kB kI kZ q (upd (upd (upd (upd (upd (upd (upd (upd (upd g 1 0) 23 c79_g23) 27 c79_g27) 30 c79_g30) 34 c79_g34) 36 c79_g36) 39 c79_g39) 51 c79_g51) 70 x70_3) (upF (upF (upF (upF (upF (upF (upF (upF (upF (upF (upF (upF (upF (upF (upF (upF (upF (upF (upF F 22 c79_F22) 24 c79_F24) 25 c79_F25) 26 c79_F26) 28 c79_F28) 29 c79_F29) 31 c79_F31) 32 c79_F32) 33 c79_F33) 37 c79_F37) 38 c79_F38) 40 c79_F40) 41 c79_F41) 52 c79_F52) 53 c79_F53) 54 c79_F54) 67 c314_F67) 68 c429_F68) 69 d449_F69)) → va_S A s.heap H locs → lv_has ls 11 [(0, .ref h0), (1, .int p0), (3, .int x70_3), (6, .int r438), (7, .int y449_7), (8, .int y449_8), (9, .int r461), (10, .int y469_10)] → W p l e ({ frames := 48, cells := 0, slots := 0, locals := 1171 } : Room) s m args below meth c H locs 0 0 Q (F0 m 500 ls [.int t500_0, .int (c429_F68 (Int32.toNatClampNeg ((7 * y449_8) + y469_10)))]) := by
                              intro t500_0 H locs ls hr hP hD hS hl
                              rw [hj500] at hr
                              refine lv_iadd hx hb dX12_mixed_500 ?_
                              refine lv_iload hx hb dX12_mixed_501 (lv_at hl 6 rfl) ?_
                              refine lv_icmp_eq (tgt := 512) hx hb dX12_mixed_503 (by decide) (fun c503 => ?_) (fun c503 => ?_)
                              · replace hr := iteT c503 hr
                                exact Jk512 y469_10 H _ ls hr hP hD hS (lv_sub hl [0, 1, 2, 3, 5, 7] rfl)
                              · replace hr := iteF c503 hr
                                refine lv_iinc (v := (y469_10 + 1)) (lv' := [(10, .int (y469_10 + 1)), (0, .ref h0), (1, .int p0), (3, .int x70_3), (6, .int r438), (7, .int y449_7), (8, .int y449_8), (9, .int r461)]) hx hb dX12_mixed_506 hl (k := 7) rfl rfl (by decide) rfl (fun ls hl => ?_)
                                refine lv_goto (tgt := 469) hx hb dX12_mixed_509 (by decide) ?_
                                exact ih469 (y469_10 + 1) H _ ls hr hP hD hS (lv_sub hl [1, 2, 3, 4, 5, 6, 7, 0] rfl)
                            replace hr := jnS hr
                            obtain ⟨j495, hj495, hr⟩ := hr
                            have Jj495 : ∀ (H : Heap) (locs : List Loc) (ls : Array Slot), j495 () = some (r, c_g1, c_g23, c_g27, c_g30, c_g34, c_g36, c_g39, c_g51, c_g70, c_F22, c_F24, c_F25, c_F26, c_F28, c_F29, c_F31, c_F32, c_F33, c_F37, c_F38, c_F40, c_F41, c_F52, c_F53, c_F54, c_F67, c_F68, c_F69) → va_P (dC, dI) vwCl (mW h0 kB kI kZ q (upd (upd (upd (upd (upd (upd (upd (upd (upd g 1 0) 23 c79_g23) 27 c79_g27) 30 c79_g30) 34 c79_g34) 36 c79_g36) 39 c79_g39) 51 c79_g51) 70 x70_3) (upF (upF (upF (upF (upF (upF (upF (upF (upF (upF (upF (upF (upF (upF (upF (upF (upF (upF (upF F 22 c79_F22) 24 c79_F24) 25 c79_F25) 26 c79_F26) 28 c79_F28) 29 c79_F29) 31 c79_F31) 32 c79_F32) 33 c79_F33) 37 c79_F37) 38 c79_F38) 40 c79_F40) 41 c79_F41) 52 c79_F52) 53 c79_F53) 54 c79_F54) 67 c314_F67) 68 c429_F68) 69 d449_F69)) H → va_D A (mW h0 kB kI kZ q (upd (upd (upd (upd (upd (upd (upd (upd (upd g 1 0) 23 c79_g23) 27 c79_g27) 30 c79_g30) 34 c79_g34) 36 c79_g36) 39 c79_g39) 51 c79_g51) 70 x70_3) (upF (upF (upF (upF (upF (upF (upF (upF (upF (upF (upF (upF (upF (upF (upF (upF (upF (upF (upF F 22 c79_F22) 24 c79_F24) 25 c79_F25) 26 c79_F26) 28 c79_F28) 29 c79_F29) 31 c79_F31) 32 c79_F32) 33 c79_F33) 37 c79_F37) 38 c79_F38) 40 c79_F40) 41 c79_F41) 52 c79_F52) 53 c79_F53) 54 c79_F54) 67 c314_F67) 68 c429_F68) 69 d449_F69)) → va_S A s.heap H locs → lv_has ls 11 [(0, .ref h0), (1, .int p0), (3, .int x70_3), (6, .int r438), (7, .int y449_7), (8, .int y449_8), (9, .int r461), (10, .int y469_10)] → W p l e ({ frames := 48, cells := 0, slots := 0, locals := 1171 } : Room) s m args below meth c H locs 0 0 Q (F0 m 495 ls [.int (c429_F68 (Int32.toNatClampNeg ((7 * y449_8) + y469_10)))]) := by
                              intro H locs ls hr hP hD hS hl
                              rw [hj495] at hr
                              refine lv_iconst (v := 0) hx hb dX12_mixed_495 (by decide +kernel) ?_
                              refine lv_goto (tgt := 500) hx hb dX12_mixed_496 (by decide) ?_
                              exact Jj500 0 H _ ls hr hP hD hS (lv_sub hl [0, 1, 2, 3, 4, 5, 6, 7] rfl)
                            refine lv_icmp_eq (tgt := 495) hx hb dX12_mixed_485 (by decide) (fun c485 => ?_) (fun c485 => ?_)
                            · replace hr := iteT c485 hr
                              exact Jj495 H _ ls hr hP hD hS (lv_sub hl [0, 1, 2, 3, 4, 5, 6, 7] rfl)
                            · replace hr := iteF c485 hr
                              refine lv_iload hx hb dX12_mixed_488 (lv_at hl 4 rfl) ?_
                              refine lv_iload hx hb dX12_mixed_490 (lv_at hl 7 rfl) ?_
                              refine lv_icmp_ne (tgt := 499) hx hb dX12_mixed_492 (by decide) (fun c492 => ?_) (fun c492 => ?_)
                              · replace hr := iteF c492 hr
                                refine lv_iload_n hx hb dX12_mixed_499 rfl (lv_at hl 1 rfl) ?_
                                exact Jj500 p0 H _ ls hr hP hD hS (lv_sub hl [0, 1, 2, 3, 4, 5, 6, 7] rfl)
                              · replace hr := iteT c492 hr
                                exact Jj495 H _ ls hr hP hD hS (lv_sub hl [0, 1, 2, 3, 4, 5, 6, 7] rfl)
                        exact lp469 NN 0 H _ ls hr hP hD hS (lv_sub hl [2, 3, 4, 5, 6, 7, 1, 0] rfl)
                  first | exact lp449 NN (-1) 0 (F 69) H _ ls hr (sP_eq (mW_cg (by repeat (first | with_reducible rfl | with_reducible refine upd_cg ?_ | refine Eq.trans ?_ (upd_id rfl))) (by repeat (first | with_reducible rfl | with_reducible refine upF_cg ?_ | refine Eq.trans ?_ (upF_id rfl)))) hP) (sD_eq (mW_cg (by repeat (first | with_reducible rfl | with_reducible refine upd_cg ?_ | refine Eq.trans ?_ (upd_id rfl))) (by repeat (first | with_reducible rfl | with_reducible refine upF_cg ?_ | refine Eq.trans ?_ (upF_id rfl)))) hD) hS (lv_sub hl [3, 4, 5, 2, 1, 0] rfl) | exact lp449 NN (-1) 0 (F 69) H _ ls hr hP hD hS (lv_sub hl [3, 4, 5, 2, 1, 0] rfl)
                have lp350 : ∀ (n350 : Nat) (y350_6 : Int32) (d350_F68 : (Nat → Int32)) (H : Heap) (locs : List Loc) (ls : Array Slot), L_mixed_350 g F p0 x70_3 c79_g23 c79_g27 c79_g30 c79_g34 c79_g36 c79_g39 c79_g51 c79_F22 c79_F24 c79_F25 c79_F26 c79_F28 c79_F29 c79_F31 c79_F32 c79_F33 c79_F37 c79_F38 c79_F40 c79_F41 c79_F52 c79_F53 c79_F54 c314_F67 k429 n350 y350_6 d350_F68 = some (r, c_g1, c_g23, c_g27, c_g30, c_g34, c_g36, c_g39, c_g51, c_g70, c_F22, c_F24, c_F25, c_F26, c_F28, c_F29, c_F31, c_F32, c_F33, c_F37, c_F38, c_F40, c_F41, c_F52, c_F53, c_F54, c_F67, c_F68, c_F69) → va_P (dC, dI) vwCl (mW h0 kB kI kZ q (upd (upd (upd (upd (upd (upd (upd (upd g 1 0) 23 c79_g23) 27 c79_g27) 30 c79_g30) 34 c79_g34) 36 c79_g36) 39 c79_g39) 51 c79_g51) (upF (upF (upF (upF (upF (upF (upF (upF (upF (upF (upF (upF (upF (upF (upF (upF (upF (upF F 22 c79_F22) 24 c79_F24) 25 c79_F25) 26 c79_F26) 28 c79_F28) 29 c79_F29) 31 c79_F31) 32 c79_F32) 33 c79_F33) 37 c79_F37) 38 c79_F38) 40 c79_F40) 41 c79_F41) 52 c79_F52) 53 c79_F53) 54 c79_F54) 67 c314_F67) 68 d350_F68)) H → va_D A (mW h0 kB kI kZ q (upd (upd (upd (upd (upd (upd (upd (upd g 1 0) 23 c79_g23) 27 c79_g27) 30 c79_g30) 34 c79_g34) 36 c79_g36) 39 c79_g39) 51 c79_g51) (upF (upF (upF (upF (upF (upF (upF (upF (upF (upF (upF (upF (upF (upF (upF (upF (upF (upF F 22 c79_F22) 24 c79_F24) 25 c79_F25) 26 c79_F26) 28 c79_F28) 29 c79_F29) 31 c79_F31) 32 c79_F32) 33 c79_F33) 37 c79_F37) 38 c79_F38) 40 c79_F40) 41 c79_F41) 52 c79_F52) 53 c79_F53) 54 c79_F54) 67 c314_F67) 68 d350_F68)) → va_S A s.heap H locs → lv_has ls 11 [(0, .ref h0), (1, .int p0), (3, .int x70_3), (6, .int y350_6)] → W p l e ({ frames := 48, cells := 0, slots := 0, locals := 1171 } : Room) s m args below meth c H locs 0 0 Q (F0 m 350 ls []) := by
                  intro n350
                  induction n350 with
                  | zero => intro y350_6 d350_F68 H locs ls hr; exact nomatch (show none = some (r, c_g1, c_g23, c_g27, c_g30, c_g34, c_g36, c_g39, c_g51, c_g70, c_F22, c_F24, c_F25, c_F26, c_F28, c_F29, c_F31, c_F32, c_F33, c_F37, c_F38, c_F40, c_F41, c_F52, c_F53, c_F54, c_F67, c_F68, c_F69) from hr)
                  | succ n350 ih350 =>
                    intro y350_6 d350_F68 H locs ls hr hP hD hS hl
                    replace hr : B_mixed_350 g F p0 x70_3 c79_g23 c79_g27 c79_g30 c79_g34 c79_g36 c79_g39 c79_g51 c79_F22 c79_F24 c79_F25 c79_F26 c79_F28 c79_F29 c79_F31 c79_F32 c79_F33 c79_F37 c79_F38 c79_F40 c79_F41 c79_F52 c79_F53 c79_F54 c314_F67 k429 (L_mixed_350 g F p0 x70_3 c79_g23 c79_g27 c79_g30 c79_g34 c79_g36 c79_g39 c79_g51 c79_F22 c79_F24 c79_F25 c79_F26 c79_F28 c79_F29 c79_F31 c79_F32 c79_F33 c79_F37 c79_F38 c79_F40 c79_F41 c79_F52 c79_F53 c79_F54 c314_F67 k429 n350) y350_6 d350_F68 = some (r, c_g1, c_g23, c_g27, c_g30, c_g34, c_g36, c_g39, c_g51, c_g70, c_F22, c_F24, c_F25, c_F26, c_F28, c_F29, c_F31, c_F32, c_F33, c_F37, c_F38, c_F40, c_F41, c_F52, c_F53, c_F54, c_F67, c_F68, c_F69) := hr
                    unfold B_mixed_350 at hr
                    refine lv_iload hx hb dX12_mixed_350 (lv_at hl 3 rfl) ?_
                    refine lv_if_lt (tgt := 429) hx hb dX12_mixed_352 (by decide) (fun c352 => ?_) (fun c352 => ?_)
                    · replace hr := iteT c352 hr
                      exact Jk429 d350_F68 H _ ls hr hP hD hS (lv_sub hl [0, 1, 2] rfl)
                    · replace hr := iteF c352 hr
                      refine lv_iconst (v := 0) hx hb dX12_mixed_355 (by decide +kernel) ?_
                      refine lv_istore (lv' := [(7, .int 0), (0, .ref h0), (1, .int p0), (3, .int x70_3), (6, .int y350_6)]) hx hb dX12_mixed_356 hl (by decide) rfl (fun ls hl => ?_)
                      replace hr := jnS hr
                      obtain ⟨k423, hk423, hr⟩ := hr
                      have Jk423 : ∀ (c423_F68 : (Nat → Int32)) (H : Heap) (locs : List Loc) (ls : Array Slot), k423 c423_F68 = some (r, c_g1, c_g23, c_g27, c_g30, c_g34, c_g36, c_g39, c_g51, c_g70, c_F22, c_F24, c_F25, c_F26, c_F28, c_F29, c_F31, c_F32, c_F33, c_F37, c_F38, c_F40, c_F41, c_F52, c_F53, c_F54, c_F67, c_F68, c_F69) → va_P (dC, dI) vwCl (mW h0 kB kI kZ q (upd (upd (upd (upd (upd (upd (upd (upd g 1 0) 23 c79_g23) 27 c79_g27) 30 c79_g30) 34 c79_g34) 36 c79_g36) 39 c79_g39) 51 c79_g51) (upF (upF (upF (upF (upF (upF (upF (upF (upF (upF (upF (upF (upF (upF (upF (upF (upF (upF F 22 c79_F22) 24 c79_F24) 25 c79_F25) 26 c79_F26) 28 c79_F28) 29 c79_F29) 31 c79_F31) 32 c79_F32) 33 c79_F33) 37 c79_F37) 38 c79_F38) 40 c79_F40) 41 c79_F41) 52 c79_F52) 53 c79_F53) 54 c79_F54) 67 c314_F67) 68 c423_F68)) H → va_D A (mW h0 kB kI kZ q (upd (upd (upd (upd (upd (upd (upd (upd g 1 0) 23 c79_g23) 27 c79_g27) 30 c79_g30) 34 c79_g34) 36 c79_g36) 39 c79_g39) 51 c79_g51) (upF (upF (upF (upF (upF (upF (upF (upF (upF (upF (upF (upF (upF (upF (upF (upF (upF (upF F 22 c79_F22) 24 c79_F24) 25 c79_F25) 26 c79_F26) 28 c79_F28) 29 c79_F29) 31 c79_F31) 32 c79_F32) 33 c79_F33) 37 c79_F37) 38 c79_F38) 40 c79_F40) 41 c79_F41) 52 c79_F52) 53 c79_F53) 54 c79_F54) 67 c314_F67) 68 c423_F68)) → va_S A s.heap H locs → lv_has ls 11 [(0, .ref h0), (1, .int p0), (3, .int x70_3), (6, .int y350_6)] → W p l e ({ frames := 48, cells := 0, slots := 0, locals := 1171 } : Room) s m args below meth c H locs 0 0 Q (F0 m 423 ls []) := by
                        intro c423_F68 H locs ls hr hP hD hS hl
                        rw [hk423] at hr
                        refine lv_iinc (v := (y350_6 + (-1))) (lv' := [(6, .int (y350_6 + (-1))), (0, .ref h0), (1, .int p0), (3, .int x70_3)]) hx hb dX12_mixed_423 hl (k := 3) rfl rfl (by decide) rfl (fun ls hl => ?_)
                        refine lv_goto (tgt := 350) hx hb dX12_mixed_426 (by decide) ?_
                        exact ih350 (y350_6 + (-1)) c423_F68 H _ ls hr hP hD hS (lv_sub hl [1, 2, 3, 0] rfl)
                      have lp358 : ∀ (n358 : Nat) (y358_7 : Int32) (d358_F68 : (Nat → Int32)) (H : Heap) (locs : List Loc) (ls : Array Slot), L_mixed_358 g F p0 x70_3 c79_g23 c79_g27 c79_g30 c79_g34 c79_g36 c79_g39 c79_g51 c79_F22 c79_F24 c79_F25 c79_F26 c79_F28 c79_F29 c79_F31 c79_F32 c79_F33 c79_F37 c79_F38 c79_F40 c79_F41 c79_F52 c79_F53 c79_F54 c314_F67 y350_6 k423 n358 y358_7 d358_F68 = some (r, c_g1, c_g23, c_g27, c_g30, c_g34, c_g36, c_g39, c_g51, c_g70, c_F22, c_F24, c_F25, c_F26, c_F28, c_F29, c_F31, c_F32, c_F33, c_F37, c_F38, c_F40, c_F41, c_F52, c_F53, c_F54, c_F67, c_F68, c_F69) → va_P (dC, dI) vwCl (mW h0 kB kI kZ q (upd (upd (upd (upd (upd (upd (upd (upd g 1 0) 23 c79_g23) 27 c79_g27) 30 c79_g30) 34 c79_g34) 36 c79_g36) 39 c79_g39) 51 c79_g51) (upF (upF (upF (upF (upF (upF (upF (upF (upF (upF (upF (upF (upF (upF (upF (upF (upF (upF F 22 c79_F22) 24 c79_F24) 25 c79_F25) 26 c79_F26) 28 c79_F28) 29 c79_F29) 31 c79_F31) 32 c79_F32) 33 c79_F33) 37 c79_F37) 38 c79_F38) 40 c79_F40) 41 c79_F41) 52 c79_F52) 53 c79_F53) 54 c79_F54) 67 c314_F67) 68 d358_F68)) H → va_D A (mW h0 kB kI kZ q (upd (upd (upd (upd (upd (upd (upd (upd g 1 0) 23 c79_g23) 27 c79_g27) 30 c79_g30) 34 c79_g34) 36 c79_g36) 39 c79_g39) 51 c79_g51) (upF (upF (upF (upF (upF (upF (upF (upF (upF (upF (upF (upF (upF (upF (upF (upF (upF (upF F 22 c79_F22) 24 c79_F24) 25 c79_F25) 26 c79_F26) 28 c79_F28) 29 c79_F29) 31 c79_F31) 32 c79_F32) 33 c79_F33) 37 c79_F37) 38 c79_F38) 40 c79_F40) 41 c79_F41) 52 c79_F52) 53 c79_F53) 54 c79_F54) 67 c314_F67) 68 d358_F68)) → va_S A s.heap H locs → lv_has ls 11 [(0, .ref h0), (1, .int p0), (3, .int x70_3), (6, .int y350_6), (7, .int y358_7)] → W p l e ({ frames := 48, cells := 0, slots := 0, locals := 1171 } : Room) s m args below meth c H locs 0 0 Q (F0 m 358 ls []) := by
                        intro n358
                        induction n358 with
                        | zero => intro y358_7 d358_F68 H locs ls hr; exact nomatch (show none = some (r, c_g1, c_g23, c_g27, c_g30, c_g34, c_g36, c_g39, c_g51, c_g70, c_F22, c_F24, c_F25, c_F26, c_F28, c_F29, c_F31, c_F32, c_F33, c_F37, c_F38, c_F40, c_F41, c_F52, c_F53, c_F54, c_F67, c_F68, c_F69) from hr)
                        | succ n358 ih358 =>
                          intro y358_7 d358_F68 H locs ls hr hP hD hS hl
                          replace hr : B_mixed_358 g F p0 x70_3 c79_g23 c79_g27 c79_g30 c79_g34 c79_g36 c79_g39 c79_g51 c79_F22 c79_F24 c79_F25 c79_F26 c79_F28 c79_F29 c79_F31 c79_F32 c79_F33 c79_F37 c79_F38 c79_F40 c79_F41 c79_F52 c79_F53 c79_F54 c314_F67 y350_6 k423 (L_mixed_358 g F p0 x70_3 c79_g23 c79_g27 c79_g30 c79_g34 c79_g36 c79_g39 c79_g51 c79_F22 c79_F24 c79_F25 c79_F26 c79_F28 c79_F29 c79_F31 c79_F32 c79_F33 c79_F37 c79_F38 c79_F40 c79_F41 c79_F52 c79_F53 c79_F54 c314_F67 y350_6 k423 n358) y358_7 d358_F68 = some (r, c_g1, c_g23, c_g27, c_g30, c_g34, c_g36, c_g39, c_g51, c_g70, c_F22, c_F24, c_F25, c_F26, c_F28, c_F29, c_F31, c_F32, c_F33, c_F37, c_F38, c_F40, c_F41, c_F52, c_F53, c_F54, c_F67, c_F68, c_F69) := hr
                          unfold B_mixed_358 at hr
                          refine lv_iload hx hb dX12_mixed_358 (lv_at hl 4 rfl) ?_
                          refine lv_aload_n hx hb dX12_mixed_360 rfl (lv_at hl 0 rfl) ?_
                          refine va_get (D := (dC, dI)) (ci := 12) (v := .int (g 9)) (C := RX12) (T := TX12) (N := 71) hx hb hts inX12 hown hK hP 0 rfl rfl 9 (by decide) (hts (.fieldLink RX12 222 "SpellTurnerModel" "reforms" "I") im_40) (fun _ h9 => h9) rfl dX12_mixed_361 ?_
                          refine lv_icmp_gt (tgt := 423) hx hb dX12_mixed_364 (by decide) (fun c364 => ?_) (fun c364 => ?_)
                          · replace hr := iteT c364 hr
                            exact Jk423 d358_F68 H _ ls hr hP hD hS (lv_sub hl [0, 1, 2, 3] rfl)
                          · replace hr := iteF c364 hr
                            refine lv_aload_n hx hb dX12_mixed_367 rfl (lv_at hl 0 rfl) ?_
                            refine va_get (D := (dC, dI)) (ci := 12) (v := .ref (q 68)) (C := RX12) (T := TX12) (N := 71) hx hb hts inX12 hown hK hP 0 rfl rfl 68 (by decide) (hts (.fieldLink RX12 146 "SpellTurnerModel" "sum" "[I") im_129) (fun _ h9 => h9) rfl dX12_mixed_368 ?_
                            refine lv_bipush (v := 7) hx hb dX12_mixed_371 (by decide +kernel) ?_
                            refine lv_iload hx hb dX12_mixed_373 (lv_at hl 3 rfl) ?_
                            refine lv_imul hx hb dX12_mixed_375 ?_
                            refine lv_iload hx hb dX12_mixed_376 (lv_at hl 4 rfl) ?_
                            refine lv_iadd hx hb dX12_mixed_378 ?_
                            refine lv_aload_n hx hb dX12_mixed_379 rfl (lv_at hl 0 rfl) ?_
                            refine va_get (D := (dC, dI)) (ci := 12) (v := .ref (q 67)) (C := RX12) (T := TX12) (N := 71) hx hb hts inX12 hown hK hP 0 rfl rfl 67 (by decide) (hts (.fieldLink RX12 143 "SpellTurnerModel" "cost" "[I") im_234) (fun _ h9 => h9) rfl dX12_mixed_380 ?_
                            refine lv_bipush (v := 7) hx hb dX12_mixed_383 (by decide +kernel) ?_
                            refine lv_iload hx hb dX12_mixed_385 (lv_at hl 3 rfl) ?_
                            refine lv_imul hx hb dX12_mixed_387 ?_
                            refine lv_iload hx hb dX12_mixed_388 (lv_at hl 4 rfl) ?_
                            refine lv_iadd hx hb dX12_mixed_390 ?_
                            replace hr := iteS hr
                            obtain ⟨hi391, hr⟩ := hr
                            refine va_iald (f := c314_F67) hx hb hK hP 43 1 rfl rfl (inbV hi391) dX12_mixed_391 ?_
                            refine lv_iload hx hb dX12_mixed_392 (lv_at hl 3 rfl) ?_
                            refine lv_iconst (v := 1) hx hb dX12_mixed_394 (by decide +kernel) ?_
                            refine lv_iadd hx hb dX12_mixed_395 ?_
                            refine lv_iload_n hx hb dX12_mixed_396 rfl (lv_at hl 2 rfl) ?_
                            replace hr := jnS hr
                            obtain ⟨j415, hj415, hr⟩ := hr
                            have Jj415 : ∀ (t415_0 : Int32) (H : Heap) (locs : List Loc) (ls : Array Slot), j415 t415_0 = some (r, c_g1, c_g23, c_g27, c_g30, c_g34, c_g36, c_g39, c_g51, c_g70, c_F22, c_F24, c_F25, c_F26, c_F28, c_F29, c_F31, c_F32, c_F33, c_F37, c_F38, c_F40, c_F41, c_F52, c_F53, c_F54, c_F67, c_F68, c_F69) → va_P (dC, dI) vwCl (mW h0 kB kI kZ q (upd (upd (upd (upd (upd (upd (upd (upd g 1 0) 23 c79_g23) 27 c79_g27) 30 c79_g30) 34 c79_g34) 36 c79_g36) 39 c79_g39) 51 c79_g51) (upF (upF (upF (upF (upF (upF (upF (upF (upF (upF (upF (upF (upF (upF (upF (upF (upF (upF F 22 c79_F22) 24 c79_F24) 25 c79_F25) 26 c79_F26) 28 c79_F28) 29 c79_F29) 31 c79_F31) 32 c79_F32) 33 c79_F33) 37 c79_F37) 38 c79_F38) 40 c79_F40) 41 c79_F41) 52 c79_F52) 53 c79_F53) 54 c79_F54) 67 c314_F67) 68 d358_F68)) H → va_D A (mW h0 kB kI kZ q (upd (upd (upd (upd (upd (upd (upd (upd g 1 0) 23 c79_g23) 27 c79_g27) 30 c79_g30) 34 c79_g34) 36 c79_g36) 39 c79_g39) 51 c79_g51) (upF (upF (upF (upF (upF (upF (upF (upF (upF (upF (upF (upF (upF (upF (upF (upF (upF (upF F 22 c79_F22) 24 c79_F24) 25 c79_F25) 26 c79_F26) 28 c79_F28) 29 c79_F29) 31 c79_F31) 32 c79_F32) 33 c79_F33) 37 c79_F37) 38 c79_F38) 40 c79_F40) 41 c79_F41) 52 c79_F52) 53 c79_F53) 54 c79_F54) 67 c314_F67) 68 d358_F68)) → va_S A s.heap H locs → lv_has ls 11 [(0, .ref h0), (1, .int p0), (3, .int x70_3), (6, .int y350_6), (7, .int y358_7)] → W p l e ({ frames := 48, cells := 0, slots := 0, locals := 1171 } : Room) s m args below meth c H locs 0 0 Q (F0 m 415 ls [.int t415_0, .int (c314_F67 (Int32.toNatClampNeg ((7 * y350_6) + y358_7))), .int ((7 * y350_6) + y358_7), .ref (q 68)]) := by
                              intro t415_0 H locs ls hr hP hD hS hl
                              rw [hj415] at hr
                              refine lv_iadd hx hb dX12_mixed_415 ?_
                              replace hr := iteS hr
                              obtain ⟨hi416, hr⟩ := hr
                              refine va_iast (f := d358_F68) hx hb hK hP hD hS 44 1 rfl rfl (inbV hi416) dX12_mixed_416 (fun H locs hP hD hS => ?_)
                              obtain ⟨w416, ew416, hP, hD⟩ : ∃ w416 : Nat → Int32, w416 = (upd d358_F68 (Int32.toNatClampNeg ((7 * y350_6) + y358_7)) ((c314_F67 (Int32.toNatClampNeg ((7 * y350_6) + y358_7))) + t415_0)) ∧ va_P (dC, dI) vwCl (mW h0 kB kI kZ q (upd (upd (upd (upd (upd (upd (upd (upd g 1 0) 23 c79_g23) 27 c79_g27) 30 c79_g30) 34 c79_g34) 36 c79_g36) 39 c79_g39) 51 c79_g51) (upF (upF (upF (upF (upF (upF (upF (upF (upF (upF (upF (upF (upF (upF (upF (upF (upF (upF F 22 c79_F22) 24 c79_F24) 25 c79_F25) 26 c79_F26) 28 c79_F28) 29 c79_F29) 31 c79_F31) 32 c79_F32) 33 c79_F33) 37 c79_F37) 38 c79_F38) 40 c79_F40) 41 c79_F41) 52 c79_F52) 53 c79_F53) 54 c79_F54) 67 c314_F67) 68 w416)) H ∧ va_D A (mW h0 kB kI kZ q (upd (upd (upd (upd (upd (upd (upd (upd g 1 0) 23 c79_g23) 27 c79_g27) 30 c79_g30) 34 c79_g34) 36 c79_g36) 39 c79_g39) 51 c79_g51) (upF (upF (upF (upF (upF (upF (upF (upF (upF (upF (upF (upF (upF (upF (upF (upF (upF (upF F 22 c79_F22) 24 c79_F24) 25 c79_F25) 26 c79_F26) 28 c79_F28) 29 c79_F29) 31 c79_F31) 32 c79_F32) 33 c79_F33) 37 c79_F37) 38 c79_F38) 40 c79_F40) 41 c79_F41) 52 c79_F52) 53 c79_F53) 54 c79_F54) 67 c314_F67) 68 w416)) := ⟨(upd d358_F68 (Int32.toNatClampNeg ((7 * y350_6) + y358_7)) ((c314_F67 (Int32.toNatClampNeg ((7 * y350_6) + y358_7))) + t415_0)), rfl, by first | exact sP_F68 hP upF_same | exact sP_F68 hP rfl | exact hP, by first | exact sD_F68 hD upF_same | exact sD_F68 hD rfl | exact hD⟩
                              replace hr := vlS hr w416 ew416
                              clear ew416
                              refine lv_iinc (v := (y358_7 + 1)) (lv' := [(7, .int (y358_7 + 1)), (0, .ref h0), (1, .int p0), (3, .int x70_3), (6, .int y350_6)]) hx hb dX12_mixed_417 hl (k := 4) rfl rfl (by decide) rfl (fun ls hl => ?_)
                              refine lv_goto (tgt := 358) hx hb dX12_mixed_420 (by decide) ?_
                              exact ih358 (y358_7 + 1) w416 H _ ls hr hP hD hS (lv_sub hl [1, 2, 3, 4, 0] rfl)
                            refine lv_icmp_ge (tgt := 414) hx hb dX12_mixed_397 (by decide) (fun c397 => ?_) (fun c397 => ?_)
                            · replace hr := iteT c397 hr
                              refine lv_iconst (v := 0) hx hb dX12_mixed_414 (by decide +kernel) ?_
                              exact Jj415 0 H _ ls hr hP hD hS (lv_sub hl [0, 1, 2, 3, 4] rfl)
                            · replace hr := iteF c397 hr
                              refine lv_aload_n hx hb dX12_mixed_400 rfl (lv_at hl 0 rfl) ?_
                              refine lv_iload hx hb dX12_mixed_401 (lv_at hl 3 rfl) ?_
                              refine lv_iconst (v := 1) hx hb dX12_mixed_403 (by decide +kernel) ?_
                              refine lv_iadd hx hb dX12_mixed_404 ?_
                              refine lv_iload hx hb dX12_mixed_405 (lv_at hl 4 rfl) ?_
                              refine lv_iload_n hx hb dX12_mixed_407 rfl (lv_at hl 1 rfl) ?_
                              replace hr := b1S hr
                              obtain ⟨r408z, hc408, hr⟩ := hr
                              have hFc := fr_all hD hS hA
                              refine va_calli (va_runV (As := [.int (y350_6 + 1), .int y358_7, .int p0]) (rest := [.int (c314_F67 (Int32.toNatClampNeg ((7 * y350_6) + y358_7))), .int ((7 * y350_6) + y358_7), .ref (q 68)]) ⟨hx, hb, hml, hown, hts⟩ (m_onward l dC dI H.size h0 kB kI kZ q (upd (upd (upd (upd (upd (upd (upd (upd g 1 0) 23 c79_g23) 27 c79_g27) 30 c79_g30) 34 c79_g34) 36 c79_g36) 39 c79_g39) 51 c79_g51) (upF (upF (upF (upF (upF (upF (upF (upF (upF (upF (upF (upF (upF (upF (upF (upF (upF (upF F 22 c79_F22) 24 c79_F24) 25 c79_F25) 26 c79_F26) 28 c79_F28) 29 c79_F29) 31 c79_F31) 32 c79_F32) 33 c79_F33) 37 c79_F37) 38 c79_F38) 40 c79_F40) 41 c79_F41) 52 c79_F52) 53 c79_F53) 54 c79_F54) 67 c314_F67) 68 d358_F68) (y350_6 + 1) y358_7 p0 r408z hc408) (cwV 3 hts gw_X12_onward_370 rfl rfl rfl (by decide +kernel) ⟨Nat.le_of_ble_eq_true rfl, Nat.le_of_ble_eq_true rfl⟩) ⟨fun a U g mk q => by obtain ⟨q0, q1, qP, qK, qD⟩ := q; exact ⟨q0, q1, qP, va_K.moved (u := U) (U := U.calling g mk a) (Vm.Alike.refl U.vm) qK, qD⟩, va_recv hK hP (ci := 12) (q0 := 0) rfl rfl, fun U hU hW => ⟨rfl, by rw [hU], by rw [hU]; exact hP, va_K.moved hW.alike hK, hD.weaken (fun _ _ _ _ => trivial)⟩⟩ rfl rfl hl.1 rfl (lv_room (Nat.le_of_ble_eq_true rfl)) dX12_mixed_408 ⟨Nat.le_of_ble_eq_true rfl, Nat.le_of_ble_eq_true rfl⟩) hS (fun q _ h => hFc q h) hFc (fun r408 u t H1 locs ht hvm hw hB hz1 hk1 hS => ?_)
                              replace hw : r408 = r408z := hw
                              subst hw
                              obtain ⟨hP1, hK1, hD1⟩ := hB
                              rw [ht] at hP1
                              obtain ⟨hP, hD⟩ := jn_all (w1 := (mW h0 kB kI kZ q (upd (upd (upd (upd (upd (upd (upd (upd g 1 0) 23 c79_g23) 27 c79_g27) 30 c79_g30) 34 c79_g34) 36 c79_g36) 39 c79_g39) 51 c79_g51) (upF (upF (upF (upF (upF (upF (upF (upF (upF (upF (upF (upF (upF (upF (upF (upF (upF (upF F 22 c79_F22) 24 c79_F24) 25 c79_F25) 26 c79_F26) 28 c79_F28) 29 c79_F29) 31 c79_F31) 32 c79_F32) 33 c79_F33) 37 c79_F37) 38 c79_F38) 40 c79_F40) 41 c79_F41) 52 c79_F52) 53 c79_F53) 54 c79_F54) 67 c314_F67) 68 d358_F68))) hFc hP1 hD1
                              clear hFc hP1 hK1 hD1 hk1 hz1 ht hvm
                              generalize H1 = H at hP hS ⊢
                              have hP : va_P (dC, dI) vwCl (mW h0 kB kI kZ q (upd (upd (upd (upd (upd (upd (upd (upd g 1 0) 23 c79_g23) 27 c79_g27) 30 c79_g30) 34 c79_g34) 36 c79_g36) 39 c79_g39) 51 c79_g51) (upF (upF (upF (upF (upF (upF (upF (upF (upF (upF (upF (upF (upF (upF (upF (upF (upF (upF F 22 c79_F22) 24 c79_F24) 25 c79_F25) 26 c79_F26) 28 c79_F28) 29 c79_F29) 31 c79_F31) 32 c79_F32) 33 c79_F33) 37 c79_F37) 38 c79_F38) 40 c79_F40) 41 c79_F41) 52 c79_F52) 53 c79_F53) 54 c79_F54) 67 c314_F67) 68 d358_F68)) H := hP
                              have hD : va_D A (mW h0 kB kI kZ q (upd (upd (upd (upd (upd (upd (upd (upd g 1 0) 23 c79_g23) 27 c79_g27) 30 c79_g30) 34 c79_g34) 36 c79_g36) 39 c79_g39) 51 c79_g51) (upF (upF (upF (upF (upF (upF (upF (upF (upF (upF (upF (upF (upF (upF (upF (upF (upF (upF F 22 c79_F22) 24 c79_F24) 25 c79_F25) 26 c79_F26) 28 c79_F28) 29 c79_F29) 31 c79_F31) 32 c79_F32) 33 c79_F33) 37 c79_F37) 38 c79_F38) 40 c79_F40) 41 c79_F41) 52 c79_F52) 53 c79_F53) 54 c79_F54) 67 c314_F67) 68 d358_F68)) := hD
                              refine lv_goto (tgt := 415) hx hb dX12_mixed_411 (by decide) ?_
                              exact Jj415 r408 H _ ls hr hP hD hS (lv_sub hl [0, 1, 2, 3, 4] rfl)
                      exact lp358 NN 0 d350_F68 H _ ls hr hP hD hS (lv_sub hl [1, 2, 3, 4, 0] rfl)
                exact lp350 NN x348 c345_F68 H _ ls hr hP hD hS (lv_sub hl [1, 2, 3, 0] rfl)
              have lp317 : ∀ (n317 : Nat) (y317_6 : Int32) (d317_F68 : (Nat → Int32)) (H : Heap) (locs : List Loc) (ls : Array Slot), L_mixed_317 g x70_3 k345 n317 y317_6 d317_F68 = some (r, c_g1, c_g23, c_g27, c_g30, c_g34, c_g36, c_g39, c_g51, c_g70, c_F22, c_F24, c_F25, c_F26, c_F28, c_F29, c_F31, c_F32, c_F33, c_F37, c_F38, c_F40, c_F41, c_F52, c_F53, c_F54, c_F67, c_F68, c_F69) → va_P (dC, dI) vwCl (mW h0 kB kI kZ q (upd (upd (upd (upd (upd (upd (upd (upd g 1 0) 23 c79_g23) 27 c79_g27) 30 c79_g30) 34 c79_g34) 36 c79_g36) 39 c79_g39) 51 c79_g51) (upF (upF (upF (upF (upF (upF (upF (upF (upF (upF (upF (upF (upF (upF (upF (upF (upF (upF F 22 c79_F22) 24 c79_F24) 25 c79_F25) 26 c79_F26) 28 c79_F28) 29 c79_F29) 31 c79_F31) 32 c79_F32) 33 c79_F33) 37 c79_F37) 38 c79_F38) 40 c79_F40) 41 c79_F41) 52 c79_F52) 53 c79_F53) 54 c79_F54) 67 c314_F67) 68 d317_F68)) H → va_D A (mW h0 kB kI kZ q (upd (upd (upd (upd (upd (upd (upd (upd g 1 0) 23 c79_g23) 27 c79_g27) 30 c79_g30) 34 c79_g34) 36 c79_g36) 39 c79_g39) 51 c79_g51) (upF (upF (upF (upF (upF (upF (upF (upF (upF (upF (upF (upF (upF (upF (upF (upF (upF (upF F 22 c79_F22) 24 c79_F24) 25 c79_F25) 26 c79_F26) 28 c79_F28) 29 c79_F29) 31 c79_F31) 32 c79_F32) 33 c79_F33) 37 c79_F37) 38 c79_F38) 40 c79_F40) 41 c79_F41) 52 c79_F52) 53 c79_F53) 54 c79_F54) 67 c314_F67) 68 d317_F68)) → va_S A s.heap H locs → lv_has ls 11 [(0, .ref h0), (1, .int p0), (3, .int x70_3), (6, .int y317_6)] → W p l e ({ frames := 48, cells := 0, slots := 0, locals := 1171 } : Room) s m args below meth c H locs 0 0 Q (F0 m 317 ls []) := by
                intro n317
                induction n317 with
                | zero => intro y317_6 d317_F68 H locs ls hr; exact nomatch (show none = some (r, c_g1, c_g23, c_g27, c_g30, c_g34, c_g36, c_g39, c_g51, c_g70, c_F22, c_F24, c_F25, c_F26, c_F28, c_F29, c_F31, c_F32, c_F33, c_F37, c_F38, c_F40, c_F41, c_F52, c_F53, c_F54, c_F67, c_F68, c_F69) from hr)
                | succ n317 ih317 =>
                  intro y317_6 d317_F68 H locs ls hr hP hD hS hl
                  replace hr : B_mixed_317 g x70_3 k345 (L_mixed_317 g x70_3 k345 n317) y317_6 d317_F68 = some (r, c_g1, c_g23, c_g27, c_g30, c_g34, c_g36, c_g39, c_g51, c_g70, c_F22, c_F24, c_F25, c_F26, c_F28, c_F29, c_F31, c_F32, c_F33, c_F37, c_F38, c_F40, c_F41, c_F52, c_F53, c_F54, c_F67, c_F68, c_F69) := hr
                  unfold B_mixed_317 at hr
                  refine lv_iload hx hb dX12_mixed_317 (lv_at hl 3 rfl) ?_
                  refine lv_aload_n hx hb dX12_mixed_319 rfl (lv_at hl 0 rfl) ?_
                  refine va_get (D := (dC, dI)) (ci := 12) (v := .int (g 9)) (C := RX12) (T := TX12) (N := 71) hx hb hts inX12 hown hK hP 0 rfl rfl 9 (by decide) (hts (.fieldLink RX12 222 "SpellTurnerModel" "reforms" "I") im_40) (fun _ h9 => h9) rfl dX12_mixed_320 ?_
                  refine lv_icmp_gt (tgt := 345) hx hb dX12_mixed_323 (by decide) (fun c323 => ?_) (fun c323 => ?_)
                  · replace hr := iteT c323 hr
                    exact Jk345 d317_F68 H _ ls hr hP hD hS (lv_sub hl [0, 1, 2] rfl)
                  · replace hr := iteF c323 hr
                    refine lv_aload_n hx hb dX12_mixed_326 rfl (lv_at hl 0 rfl) ?_
                    refine va_get (D := (dC, dI)) (ci := 12) (v := .ref (q 68)) (C := RX12) (T := TX12) (N := 71) hx hb hts inX12 hown hK hP 0 rfl rfl 68 (by decide) (hts (.fieldLink RX12 146 "SpellTurnerModel" "sum" "[I") im_129) (fun _ h9 => h9) rfl dX12_mixed_327 ?_
                    refine lv_bipush (v := 7) hx hb dX12_mixed_330 (by decide +kernel) ?_
                    refine lv_iload_n hx hb dX12_mixed_332 rfl (lv_at hl 2 rfl) ?_
                    refine lv_imul hx hb dX12_mixed_333 ?_
                    refine lv_iload hx hb dX12_mixed_334 (lv_at hl 3 rfl) ?_
                    refine lv_iadd hx hb dX12_mixed_336 ?_
                    refine lv_iconst (v := 0) hx hb dX12_mixed_337 (by decide +kernel) ?_
                    replace hr := iteS hr
                    obtain ⟨hi338, hr⟩ := hr
                    refine va_iast (f := d317_F68) hx hb hK hP hD hS 44 1 rfl rfl (inbV hi338) dX12_mixed_338 (fun H locs hP hD hS => ?_)
                    obtain ⟨w338, ew338, hP, hD⟩ : ∃ w338 : Nat → Int32, w338 = (upd d317_F68 (Int32.toNatClampNeg ((7 * x70_3) + y317_6)) 0) ∧ va_P (dC, dI) vwCl (mW h0 kB kI kZ q (upd (upd (upd (upd (upd (upd (upd (upd g 1 0) 23 c79_g23) 27 c79_g27) 30 c79_g30) 34 c79_g34) 36 c79_g36) 39 c79_g39) 51 c79_g51) (upF (upF (upF (upF (upF (upF (upF (upF (upF (upF (upF (upF (upF (upF (upF (upF (upF (upF F 22 c79_F22) 24 c79_F24) 25 c79_F25) 26 c79_F26) 28 c79_F28) 29 c79_F29) 31 c79_F31) 32 c79_F32) 33 c79_F33) 37 c79_F37) 38 c79_F38) 40 c79_F40) 41 c79_F41) 52 c79_F52) 53 c79_F53) 54 c79_F54) 67 c314_F67) 68 w338)) H ∧ va_D A (mW h0 kB kI kZ q (upd (upd (upd (upd (upd (upd (upd (upd g 1 0) 23 c79_g23) 27 c79_g27) 30 c79_g30) 34 c79_g34) 36 c79_g36) 39 c79_g39) 51 c79_g51) (upF (upF (upF (upF (upF (upF (upF (upF (upF (upF (upF (upF (upF (upF (upF (upF (upF (upF F 22 c79_F22) 24 c79_F24) 25 c79_F25) 26 c79_F26) 28 c79_F28) 29 c79_F29) 31 c79_F31) 32 c79_F32) 33 c79_F33) 37 c79_F37) 38 c79_F38) 40 c79_F40) 41 c79_F41) 52 c79_F52) 53 c79_F53) 54 c79_F54) 67 c314_F67) 68 w338)) := ⟨(upd d317_F68 (Int32.toNatClampNeg ((7 * x70_3) + y317_6)) 0), rfl, by first | exact sP_F68 hP upF_same | exact sP_F68 hP rfl | exact hP, by first | exact sD_F68 hD upF_same | exact sD_F68 hD rfl | exact hD⟩
                    replace hr := vlS hr w338 ew338
                    clear ew338
                    refine lv_iinc (v := (y317_6 + 1)) (lv' := [(6, .int (y317_6 + 1)), (0, .ref h0), (1, .int p0), (3, .int x70_3)]) hx hb dX12_mixed_339 hl (k := 3) rfl rfl (by decide) rfl (fun ls hl => ?_)
                    refine lv_goto (tgt := 317) hx hb dX12_mixed_342 (by decide) ?_
                    exact ih317 (y317_6 + 1) w338 H _ ls hr hP hD hS (lv_sub hl [1, 2, 3, 0] rfl)
              first | exact lp317 NN 0 (F 68) H _ ls hr (sP_eq (mW_cg (by repeat (first | with_reducible rfl | with_reducible refine upd_cg ?_ | refine Eq.trans ?_ (upd_id rfl))) (by repeat (first | with_reducible rfl | with_reducible refine upF_cg ?_ | refine Eq.trans ?_ (upF_id rfl)))) hP) (sD_eq (mW_cg (by repeat (first | with_reducible rfl | with_reducible refine upd_cg ?_ | refine Eq.trans ?_ (upd_id rfl))) (by repeat (first | with_reducible rfl | with_reducible refine upF_cg ?_ | refine Eq.trans ?_ (upF_id rfl)))) hD) hS (lv_sub hl [1, 2, 3, 0] rfl) | exact lp317 NN 0 (F 68) H _ ls hr hP hD hS (lv_sub hl [1, 2, 3, 0] rfl)
            have lp113 : ∀ (n113 : Nat) (y113_4 : Int32) (y113_5 : Int32) (d113_F67 : (Nat → Int32)) (H : Heap) (locs : List Loc) (ls : Array Slot), L_mixed_113 g F c79_g23 c79_g27 c79_g30 c79_g34 c79_g36 c79_g39 c79_g51 c79_F22 c79_F24 c79_F25 c79_F26 c79_F28 c79_F29 c79_F31 c79_F32 c79_F33 c79_F37 c79_F38 c79_F40 c79_F41 c79_F52 c79_F53 c79_F54 k314 n113 y113_4 y113_5 d113_F67 = some (r, c_g1, c_g23, c_g27, c_g30, c_g34, c_g36, c_g39, c_g51, c_g70, c_F22, c_F24, c_F25, c_F26, c_F28, c_F29, c_F31, c_F32, c_F33, c_F37, c_F38, c_F40, c_F41, c_F52, c_F53, c_F54, c_F67, c_F68, c_F69) → va_P (dC, dI) vwCl (mW h0 kB kI kZ q (upd (upd (upd (upd (upd (upd (upd (upd g 1 0) 23 c79_g23) 27 c79_g27) 30 c79_g30) 34 c79_g34) 36 c79_g36) 39 c79_g39) 51 c79_g51) (upF (upF (upF (upF (upF (upF (upF (upF (upF (upF (upF (upF (upF (upF (upF (upF (upF F 22 c79_F22) 24 c79_F24) 25 c79_F25) 26 c79_F26) 28 c79_F28) 29 c79_F29) 31 c79_F31) 32 c79_F32) 33 c79_F33) 37 c79_F37) 38 c79_F38) 40 c79_F40) 41 c79_F41) 52 c79_F52) 53 c79_F53) 54 c79_F54) 67 d113_F67)) H → va_D A (mW h0 kB kI kZ q (upd (upd (upd (upd (upd (upd (upd (upd g 1 0) 23 c79_g23) 27 c79_g27) 30 c79_g30) 34 c79_g34) 36 c79_g36) 39 c79_g39) 51 c79_g51) (upF (upF (upF (upF (upF (upF (upF (upF (upF (upF (upF (upF (upF (upF (upF (upF (upF F 22 c79_F22) 24 c79_F24) 25 c79_F25) 26 c79_F26) 28 c79_F28) 29 c79_F29) 31 c79_F31) 32 c79_F32) 33 c79_F33) 37 c79_F37) 38 c79_F38) 40 c79_F40) 41 c79_F41) 52 c79_F52) 53 c79_F53) 54 c79_F54) 67 d113_F67)) → va_S A s.heap H locs → lv_has ls 11 [(0, .ref h0), (1, .int p0), (2, .int (g 1)), (3, .int x70_3), (4, .int y113_4), (5, .int y113_5)] → W p l e ({ frames := 48, cells := 0, slots := 0, locals := 1171 } : Room) s m args below meth c H locs 0 0 Q (F0 m 113 ls []) := by
              intro n113
              induction n113 with
              | zero => intro y113_4 y113_5 d113_F67 H locs ls hr; exact nomatch (show none = some (r, c_g1, c_g23, c_g27, c_g30, c_g34, c_g36, c_g39, c_g51, c_g70, c_F22, c_F24, c_F25, c_F26, c_F28, c_F29, c_F31, c_F32, c_F33, c_F37, c_F38, c_F40, c_F41, c_F52, c_F53, c_F54, c_F67, c_F68, c_F69) from hr)
              | succ n113 ih113 =>
                intro y113_4 y113_5 d113_F67 H locs ls hr hP hD hS hl
                replace hr : B_mixed_113 g F c79_g23 c79_g27 c79_g30 c79_g34 c79_g36 c79_g39 c79_g51 c79_F22 c79_F24 c79_F25 c79_F26 c79_F28 c79_F29 c79_F31 c79_F32 c79_F33 c79_F37 c79_F38 c79_F40 c79_F41 c79_F52 c79_F53 c79_F54 k314 (L_mixed_113 g F c79_g23 c79_g27 c79_g30 c79_g34 c79_g36 c79_g39 c79_g51 c79_F22 c79_F24 c79_F25 c79_F26 c79_F28 c79_F29 c79_F31 c79_F32 c79_F33 c79_F37 c79_F38 c79_F40 c79_F41 c79_F52 c79_F53 c79_F54 k314 n113) y113_4 y113_5 d113_F67 = some (r, c_g1, c_g23, c_g27, c_g30, c_g34, c_g36, c_g39, c_g51, c_g70, c_F22, c_F24, c_F25, c_F26, c_F28, c_F29, c_F31, c_F32, c_F33, c_F37, c_F38, c_F40, c_F41, c_F52, c_F53, c_F54, c_F67, c_F68, c_F69) := hr
                unfold B_mixed_113 at hr
                refine lv_iload hx hb dX12_mixed_113 (lv_at hl 5 rfl) ?_
                refine lv_iload_n hx hb dX12_mixed_115 rfl (lv_at hl 2 rfl) ?_
                refine lv_icmp_ge (tgt := 314) hx hb dX12_mixed_116 (by decide) (fun c116 => ?_) (fun c116 => ?_)
                · replace hr := iteT c116 hr
                  exact Jk314 d113_F67 H _ ls hr hP hD hS (lv_sub hl [0, 1, 3] rfl)
                · replace hr := iteF c116 hr
                  refine lv_iload hx hb dX12_mixed_119 (lv_at hl 5 rfl) ?_
                  refine lv_iconst (v := 1) hx hb dX12_mixed_121 (by decide +kernel) ?_
                  refine lv_iadd hx hb dX12_mixed_122 ?_
                  refine lv_topi (fun x123 ex123 => ?_)
                  replace hr := vlS hr x123 ex123
                  clear ex123
                  refine lv_istore (lv' := [(6, .int x123), (0, .ref h0), (1, .int p0), (2, .int (g 1)), (3, .int x70_3), (4, .int y113_4), (5, .int y113_5)]) hx hb dX12_mixed_123 hl (by decide) rfl (fun ls hl => ?_)
                  refine lv_aload_n hx hb dX12_mixed_125 rfl (lv_at hl 1 rfl) ?_
                  refine va_get (D := (dC, dI)) (ci := 12) (v := .ref (q 0)) (C := RX12) (T := TX12) (N := 71) hx hb hts inX12 hown hK hP 0 rfl rfl 0 (by decide) (hts (.fieldLink RX12 7 "SpellTurnerModel" "tape" "[B") im_34) (fun _ h9 => h9) rfl dX12_mixed_126 ?_
                  refine lv_iload hx hb dX12_mixed_129 (lv_at hl 6 rfl) ?_
                  replace hr := iteS hr
                  obtain ⟨hi131, hr⟩ := hr
                  refine va_bald (f := (F 0)) hx hb hK hP 1 0 rfl rfl (inbV hi131) dX12_mixed_131 ?_
                  refine lv_bipush (v := 34) hx hb dX12_mixed_132 (by decide +kernel) ?_
                  replace hr := jnS hr
                  obtain ⟨j307, hj307, hr⟩ := hr
                  have Jj307 : ∀ (x307_4 : Int32) (x307_6 : Int32) (c307_F67 : (Nat → Int32)) (H : Heap) (locs : List Loc) (ls : Array Slot), j307 x307_4 x307_6 c307_F67 = some (r, c_g1, c_g23, c_g27, c_g30, c_g34, c_g36, c_g39, c_g51, c_g70, c_F22, c_F24, c_F25, c_F26, c_F28, c_F29, c_F31, c_F32, c_F33, c_F37, c_F38, c_F40, c_F41, c_F52, c_F53, c_F54, c_F67, c_F68, c_F69) → va_P (dC, dI) vwCl (mW h0 kB kI kZ q (upd (upd (upd (upd (upd (upd (upd (upd g 1 0) 23 c79_g23) 27 c79_g27) 30 c79_g30) 34 c79_g34) 36 c79_g36) 39 c79_g39) 51 c79_g51) (upF (upF (upF (upF (upF (upF (upF (upF (upF (upF (upF (upF (upF (upF (upF (upF (upF F 22 c79_F22) 24 c79_F24) 25 c79_F25) 26 c79_F26) 28 c79_F28) 29 c79_F29) 31 c79_F31) 32 c79_F32) 33 c79_F33) 37 c79_F37) 38 c79_F38) 40 c79_F40) 41 c79_F41) 52 c79_F52) 53 c79_F53) 54 c79_F54) 67 c307_F67)) H → va_D A (mW h0 kB kI kZ q (upd (upd (upd (upd (upd (upd (upd (upd g 1 0) 23 c79_g23) 27 c79_g27) 30 c79_g30) 34 c79_g34) 36 c79_g36) 39 c79_g39) 51 c79_g51) (upF (upF (upF (upF (upF (upF (upF (upF (upF (upF (upF (upF (upF (upF (upF (upF (upF F 22 c79_F22) 24 c79_F24) 25 c79_F25) 26 c79_F26) 28 c79_F28) 29 c79_F29) 31 c79_F31) 32 c79_F32) 33 c79_F33) 37 c79_F37) 38 c79_F38) 40 c79_F40) 41 c79_F41) 52 c79_F52) 53 c79_F53) 54 c79_F54) 67 c307_F67)) → va_S A s.heap H locs → lv_has ls 11 [(0, .ref h0), (1, .int p0), (2, .int (g 1)), (3, .int x70_3), (4, .int x307_4), (6, .int x307_6)] → W p l e ({ frames := 48, cells := 0, slots := 0, locals := 1171 } : Room) s m args below meth c H locs 0 0 Q (F0 m 307 ls []) := by
                    intro x307_4 x307_6 c307_F67 H locs ls hr hP hD hS hl
                    rw [hj307] at hr
                    refine lv_iload hx hb dX12_mixed_307 (lv_at hl 5 rfl) ?_
                    refine lv_istore (lv' := [(5, .int x307_6), (0, .ref h0), (1, .int p0), (2, .int (g 1)), (3, .int x70_3), (4, .int x307_4), (6, .int x307_6)]) hx hb dX12_mixed_309 hl (by decide) rfl (fun ls hl => ?_)
                    refine lv_goto (tgt := 113) hx hb dX12_mixed_311 (by decide) ?_
                    exact ih113 x307_4 x307_6 c307_F67 H _ ls hr hP hD hS (lv_sub hl [1, 2, 3, 4, 5, 0] rfl)
                  refine lv_icmp_ne (tgt := 188) hx hb dX12_mixed_134 (by decide) (fun c134 => ?_) (fun c134 => ?_)
                  · replace hr := iteF c134 hr
                    refine lv_aload_n hx hb dX12_mixed_188 rfl (lv_at hl 1 rfl) ?_
                    refine va_get (D := (dC, dI)) (ci := 12) (v := .ref (q 0)) (C := RX12) (T := TX12) (N := 71) hx hb hts inX12 hown hK hP 0 rfl rfl 0 (by decide) (hts (.fieldLink RX12 7 "SpellTurnerModel" "tape" "[B") im_34) (fun _ h9 => h9) rfl dX12_mixed_189 ?_
                    refine lv_iload hx hb dX12_mixed_192 (lv_at hl 6 rfl) ?_
                    replace hr := iteS hr
                    obtain ⟨hi194, hr⟩ := hr
                    refine va_bald (f := (F 0)) hx hb hK hP 1 0 rfl rfl (inbV hi194) dX12_mixed_194 ?_
                    replace hr := b1S hr
                    obtain ⟨r195z, hc195, hr⟩ := hr
                    have hFc := fr_all hD hS hA
                    refine va_calli (va_runS (As := [.int ((F 0) (Int32.toNatClampNeg y113_5))]) (rest := []) ⟨hx, hb, hml, hown, hts⟩ (m_isLetter l dC dI H.size h0 kB kI kZ q (upd (upd (upd (upd (upd (upd (upd (upd g 1 0) 23 c79_g23) 27 c79_g27) 30 c79_g30) 34 c79_g34) 36 c79_g36) 39 c79_g39) 51 c79_g51) (upF (upF (upF (upF (upF (upF (upF (upF (upF (upF (upF (upF (upF (upF (upF (upF (upF F 22 c79_F22) 24 c79_F24) 25 c79_F25) 26 c79_F26) 28 c79_F28) 29 c79_F29) 31 c79_F31) 32 c79_F32) 33 c79_F33) 37 c79_F37) 38 c79_F38) 40 c79_F40) 41 c79_F41) 52 c79_F52) 53 c79_F53) 54 c79_F54) 67 d113_F67) ((F 0) (Int32.toNatClampNeg y113_5)) r195z hc195) (va_cwS 1 hts gw_X12_isLetter_354 rfl rfl rfl (by decide +kernel) ⟨Nat.le_of_ble_eq_true rfl, Nat.le_of_ble_eq_true rfl⟩) ⟨fun a U g mk q => by obtain ⟨q0, q1, qP, qK, qD⟩ := q; exact ⟨q0, q1, qP, va_K.moved (u := U) (U := U.calling g mk a) (Vm.Alike.refl U.vm) qK, qD⟩, fun U hU hW => ⟨rfl, by rw [hU], by rw [hU]; exact hP, va_K.moved hW.alike hK, hD.weaken (fun _ _ _ _ => trivial)⟩⟩ rfl rfl hl.1 rfl (lv_room (Nat.le_of_ble_eq_true rfl)) dX12_mixed_195 ⟨Nat.le_of_ble_eq_true rfl, Nat.le_of_ble_eq_true rfl⟩) hS (fun q _ h => hFc q h) hFc (fun r195 u t H1 locs ht hvm hw hB hz1 hk1 hS => ?_)
                    replace hw : r195 = r195z := hw
                    subst hw
                    obtain ⟨hP1, hK1, hD1⟩ := hB
                    rw [ht] at hP1
                    obtain ⟨hP, hD⟩ := jn_all (w1 := (mW h0 kB kI kZ q (upd (upd (upd (upd (upd (upd (upd (upd g 1 0) 23 c79_g23) 27 c79_g27) 30 c79_g30) 34 c79_g34) 36 c79_g36) 39 c79_g39) 51 c79_g51) (upF (upF (upF (upF (upF (upF (upF (upF (upF (upF (upF (upF (upF (upF (upF (upF (upF F 22 c79_F22) 24 c79_F24) 25 c79_F25) 26 c79_F26) 28 c79_F28) 29 c79_F29) 31 c79_F31) 32 c79_F32) 33 c79_F33) 37 c79_F37) 38 c79_F38) 40 c79_F40) 41 c79_F41) 52 c79_F52) 53 c79_F53) 54 c79_F54) 67 d113_F67))) hFc hP1 hD1
                    clear hFc hP1 hK1 hD1 hk1 hz1 ht hvm
                    generalize H1 = H at hP hS ⊢
                    have hP : va_P (dC, dI) vwCl (mW h0 kB kI kZ q (upd (upd (upd (upd (upd (upd (upd (upd g 1 0) 23 c79_g23) 27 c79_g27) 30 c79_g30) 34 c79_g34) 36 c79_g36) 39 c79_g39) 51 c79_g51) (upF (upF (upF (upF (upF (upF (upF (upF (upF (upF (upF (upF (upF (upF (upF (upF (upF F 22 c79_F22) 24 c79_F24) 25 c79_F25) 26 c79_F26) 28 c79_F28) 29 c79_F29) 31 c79_F31) 32 c79_F32) 33 c79_F33) 37 c79_F37) 38 c79_F38) 40 c79_F40) 41 c79_F41) 52 c79_F52) 53 c79_F53) 54 c79_F54) 67 d113_F67)) H := hP
                    have hD : va_D A (mW h0 kB kI kZ q (upd (upd (upd (upd (upd (upd (upd (upd g 1 0) 23 c79_g23) 27 c79_g27) 30 c79_g30) 34 c79_g34) 36 c79_g36) 39 c79_g39) 51 c79_g51) (upF (upF (upF (upF (upF (upF (upF (upF (upF (upF (upF (upF (upF (upF (upF (upF (upF F 22 c79_F22) 24 c79_F24) 25 c79_F25) 26 c79_F26) 28 c79_F28) 29 c79_F29) 31 c79_F31) 32 c79_F32) 33 c79_F33) 37 c79_F37) 38 c79_F38) 40 c79_F40) 41 c79_F41) 52 c79_F52) 53 c79_F53) 54 c79_F54) 67 d113_F67)) := hD
                    refine lv_if_eq (tgt := 292) hx hb dX12_mixed_198 (by decide) (fun c198 => ?_) (fun c198 => ?_)
                    · replace hr := iteT c198 hr
                      refine lv_aload_n hx hb dX12_mixed_292 rfl (lv_at hl 1 rfl) ?_
                      refine va_get (D := (dC, dI)) (ci := 12) (v := .ref (q 0)) (C := RX12) (T := TX12) (N := 71) hx hb hts inX12 hown hK hP 0 rfl rfl 0 (by decide) (hts (.fieldLink RX12 7 "SpellTurnerModel" "tape" "[B") im_34) (fun _ h9 => h9) rfl dX12_mixed_293 ?_
                      refine lv_iload hx hb dX12_mixed_296 (lv_at hl 6 rfl) ?_
                      replace hr := iteS hr
                      obtain ⟨hi298, hr⟩ := hr
                      refine va_bald (f := (F 0)) hx hb hK hP 1 0 rfl rfl (inbV hi298) dX12_mixed_298 ?_
                      refine lv_bipush (v := 10) hx hb dX12_mixed_299 (by decide +kernel) ?_
                      refine lv_icmp_ne (tgt := 307) hx hb dX12_mixed_301 (by decide) (fun c301 => ?_) (fun c301 => ?_)
                      · replace hr := iteF c301 hr
                        exact Jj307 y113_4 x123 d113_F67 H _ ls hr hP hD hS (lv_sub hl [1, 2, 3, 4, 5, 0] rfl)
                      · replace hr := iteT c301 hr
                        refine lv_iinc (v := (y113_4 + 1)) (lv' := [(4, .int (y113_4 + 1)), (6, .int x123), (0, .ref h0), (1, .int p0), (2, .int (g 1)), (3, .int x70_3), (5, .int y113_5)]) hx hb dX12_mixed_304 hl (k := 5) rfl rfl (by decide) rfl (fun ls hl => ?_)
                        exact Jj307 (y113_4 + 1) x123 d113_F67 H _ ls hr hP hD hS (lv_sub hl [2, 3, 4, 5, 0, 1] rfl)
                    · replace hr := iteF c198 hr
                      replace hr := jnS hr
                      obtain ⟨k226, hk226, hr⟩ := hr
                      have Jk226 : ∀ (x226_6 : Int32) (H : Heap) (locs : List Loc) (ls : Array Slot), k226 x226_6 = some (r, c_g1, c_g23, c_g27, c_g30, c_g34, c_g36, c_g39, c_g51, c_g70, c_F22, c_F24, c_F25, c_F26, c_F28, c_F29, c_F31, c_F32, c_F33, c_F37, c_F38, c_F40, c_F41, c_F52, c_F53, c_F54, c_F67, c_F68, c_F69) → va_P (dC, dI) vwCl (mW h0 kB kI kZ q (upd (upd (upd (upd (upd (upd (upd (upd g 1 0) 23 c79_g23) 27 c79_g27) 30 c79_g30) 34 c79_g34) 36 c79_g36) 39 c79_g39) 51 c79_g51) (upF (upF (upF (upF (upF (upF (upF (upF (upF (upF (upF (upF (upF (upF (upF (upF (upF F 22 c79_F22) 24 c79_F24) 25 c79_F25) 26 c79_F26) 28 c79_F28) 29 c79_F29) 31 c79_F31) 32 c79_F32) 33 c79_F33) 37 c79_F37) 38 c79_F38) 40 c79_F40) 41 c79_F41) 52 c79_F52) 53 c79_F53) 54 c79_F54) 67 d113_F67)) H → va_D A (mW h0 kB kI kZ q (upd (upd (upd (upd (upd (upd (upd (upd g 1 0) 23 c79_g23) 27 c79_g27) 30 c79_g30) 34 c79_g34) 36 c79_g36) 39 c79_g39) 51 c79_g51) (upF (upF (upF (upF (upF (upF (upF (upF (upF (upF (upF (upF (upF (upF (upF (upF (upF F 22 c79_F22) 24 c79_F24) 25 c79_F25) 26 c79_F26) 28 c79_F28) 29 c79_F29) 31 c79_F31) 32 c79_F32) 33 c79_F33) 37 c79_F37) 38 c79_F38) 40 c79_F40) 41 c79_F41) 52 c79_F52) 53 c79_F53) 54 c79_F54) 67 d113_F67)) → va_S A s.heap H locs → lv_has ls 11 [(0, .ref h0), (1, .int p0), (2, .int (g 1)), (3, .int x70_3), (4, .int y113_4), (5, .int y113_5), (6, .int x226_6)] → W p l e ({ frames := 48, cells := 0, slots := 0, locals := 1171 } : Room) s m args below meth c H locs 0 0 Q (F0 m 226 ls []) := by
                        intro x226_6 H locs ls hr hP hD hS hl
                        rw [hk226] at hr
                        refine lv_iconst (v := 0) hx hb dX12_mixed_226 (by decide +kernel) ?_
                        refine lv_istore (lv' := [(7, .int 0), (0, .ref h0), (1, .int p0), (2, .int (g 1)), (3, .int x70_3), (4, .int y113_4), (5, .int y113_5), (6, .int x226_6)]) hx hb dX12_mixed_227 hl (by decide) rfl (fun ls hl => ?_)
                        replace hr := jnS hr
                        obtain ⟨k289, hk289, hr⟩ := hr
                        have Jk289 : ∀ (c289_F67 : (Nat → Int32)) (H : Heap) (locs : List Loc) (ls : Array Slot), k289 c289_F67 = some (r, c_g1, c_g23, c_g27, c_g30, c_g34, c_g36, c_g39, c_g51, c_g70, c_F22, c_F24, c_F25, c_F26, c_F28, c_F29, c_F31, c_F32, c_F33, c_F37, c_F38, c_F40, c_F41, c_F52, c_F53, c_F54, c_F67, c_F68, c_F69) → va_P (dC, dI) vwCl (mW h0 kB kI kZ q (upd (upd (upd (upd (upd (upd (upd (upd g 1 0) 23 c79_g23) 27 c79_g27) 30 c79_g30) 34 c79_g34) 36 c79_g36) 39 c79_g39) 51 c79_g51) (upF (upF (upF (upF (upF (upF (upF (upF (upF (upF (upF (upF (upF (upF (upF (upF (upF F 22 c79_F22) 24 c79_F24) 25 c79_F25) 26 c79_F26) 28 c79_F28) 29 c79_F29) 31 c79_F31) 32 c79_F32) 33 c79_F33) 37 c79_F37) 38 c79_F38) 40 c79_F40) 41 c79_F41) 52 c79_F52) 53 c79_F53) 54 c79_F54) 67 c289_F67)) H → va_D A (mW h0 kB kI kZ q (upd (upd (upd (upd (upd (upd (upd (upd g 1 0) 23 c79_g23) 27 c79_g27) 30 c79_g30) 34 c79_g34) 36 c79_g36) 39 c79_g39) 51 c79_g51) (upF (upF (upF (upF (upF (upF (upF (upF (upF (upF (upF (upF (upF (upF (upF (upF (upF F 22 c79_F22) 24 c79_F24) 25 c79_F25) 26 c79_F26) 28 c79_F28) 29 c79_F29) 31 c79_F31) 32 c79_F32) 33 c79_F33) 37 c79_F37) 38 c79_F38) 40 c79_F40) 41 c79_F41) 52 c79_F52) 53 c79_F53) 54 c79_F54) 67 c289_F67)) → va_S A s.heap H locs → lv_has ls 11 [(0, .ref h0), (1, .int p0), (2, .int (g 1)), (3, .int x70_3), (4, .int y113_4), (6, .int x226_6)] → W p l e ({ frames := 48, cells := 0, slots := 0, locals := 1171 } : Room) s m args below meth c H locs 0 0 Q (F0 m 289 ls []) := by
                          intro c289_F67 H locs ls hr hP hD hS hl
                          rw [hk289] at hr
                          refine lv_goto (tgt := 307) hx hb dX12_mixed_289 (by decide) ?_
                          exact Jj307 y113_4 x226_6 c289_F67 H _ ls hr hP hD hS (lv_sub hl [0, 1, 2, 3, 4, 5] rfl)
                        have lp229 : ∀ (n229 : Nat) (y229_7 : Int32) (d229_F67 : (Nat → Int32)) (H : Heap) (locs : List Loc) (ls : Array Slot), L_mixed_229 g F c79_g23 c79_g27 c79_g30 c79_g34 c79_g36 c79_g39 c79_g51 c79_F22 c79_F24 c79_F25 c79_F26 c79_F28 c79_F29 c79_F31 c79_F32 c79_F33 c79_F37 c79_F38 c79_F40 c79_F41 c79_F52 c79_F53 c79_F54 y113_4 y113_5 x226_6 k289 n229 y229_7 d229_F67 = some (r, c_g1, c_g23, c_g27, c_g30, c_g34, c_g36, c_g39, c_g51, c_g70, c_F22, c_F24, c_F25, c_F26, c_F28, c_F29, c_F31, c_F32, c_F33, c_F37, c_F38, c_F40, c_F41, c_F52, c_F53, c_F54, c_F67, c_F68, c_F69) → va_P (dC, dI) vwCl (mW h0 kB kI kZ q (upd (upd (upd (upd (upd (upd (upd (upd g 1 0) 23 c79_g23) 27 c79_g27) 30 c79_g30) 34 c79_g34) 36 c79_g36) 39 c79_g39) 51 c79_g51) (upF (upF (upF (upF (upF (upF (upF (upF (upF (upF (upF (upF (upF (upF (upF (upF (upF F 22 c79_F22) 24 c79_F24) 25 c79_F25) 26 c79_F26) 28 c79_F28) 29 c79_F29) 31 c79_F31) 32 c79_F32) 33 c79_F33) 37 c79_F37) 38 c79_F38) 40 c79_F40) 41 c79_F41) 52 c79_F52) 53 c79_F53) 54 c79_F54) 67 d229_F67)) H → va_D A (mW h0 kB kI kZ q (upd (upd (upd (upd (upd (upd (upd (upd g 1 0) 23 c79_g23) 27 c79_g27) 30 c79_g30) 34 c79_g34) 36 c79_g36) 39 c79_g39) 51 c79_g51) (upF (upF (upF (upF (upF (upF (upF (upF (upF (upF (upF (upF (upF (upF (upF (upF (upF F 22 c79_F22) 24 c79_F24) 25 c79_F25) 26 c79_F26) 28 c79_F28) 29 c79_F29) 31 c79_F31) 32 c79_F32) 33 c79_F33) 37 c79_F37) 38 c79_F38) 40 c79_F40) 41 c79_F41) 52 c79_F52) 53 c79_F53) 54 c79_F54) 67 d229_F67)) → va_S A s.heap H locs → lv_has ls 11 [(0, .ref h0), (1, .int p0), (2, .int (g 1)), (3, .int x70_3), (4, .int y113_4), (5, .int y113_5), (6, .int x226_6), (7, .int y229_7)] → W p l e ({ frames := 48, cells := 0, slots := 0, locals := 1171 } : Room) s m args below meth c H locs 0 0 Q (F0 m 229 ls []) := by
                          intro n229
                          induction n229 with
                          | zero => intro y229_7 d229_F67 H locs ls hr; exact nomatch (show none = some (r, c_g1, c_g23, c_g27, c_g30, c_g34, c_g36, c_g39, c_g51, c_g70, c_F22, c_F24, c_F25, c_F26, c_F28, c_F29, c_F31, c_F32, c_F33, c_F37, c_F38, c_F40, c_F41, c_F52, c_F53, c_F54, c_F67, c_F68, c_F69) from hr)
                          | succ n229 ih229 =>
                            intro y229_7 d229_F67 H locs ls hr hP hD hS hl
                            replace hr : B_mixed_229 g F c79_g23 c79_g27 c79_g30 c79_g34 c79_g36 c79_g39 c79_g51 c79_F22 c79_F24 c79_F25 c79_F26 c79_F28 c79_F29 c79_F31 c79_F32 c79_F33 c79_F37 c79_F38 c79_F40 c79_F41 c79_F52 c79_F53 c79_F54 y113_4 y113_5 x226_6 k289 (L_mixed_229 g F c79_g23 c79_g27 c79_g30 c79_g34 c79_g36 c79_g39 c79_g51 c79_F22 c79_F24 c79_F25 c79_F26 c79_F28 c79_F29 c79_F31 c79_F32 c79_F33 c79_F37 c79_F38 c79_F40 c79_F41 c79_F52 c79_F53 c79_F54 y113_4 y113_5 x226_6 k289 n229) y229_7 d229_F67 = some (r, c_g1, c_g23, c_g27, c_g30, c_g34, c_g36, c_g39, c_g51, c_g70, c_F22, c_F24, c_F25, c_F26, c_F28, c_F29, c_F31, c_F32, c_F33, c_F37, c_F38, c_F40, c_F41, c_F52, c_F53, c_F54, c_F67, c_F68, c_F69) := hr
                            unfold B_mixed_229 at hr
                            refine lv_iload hx hb dX12_mixed_229 (lv_at hl 7 rfl) ?_
                            refine lv_aload_n hx hb dX12_mixed_231 rfl (lv_at hl 0 rfl) ?_
                            refine va_get (D := (dC, dI)) (ci := 12) (v := .int (g 9)) (C := RX12) (T := TX12) (N := 71) hx hb hts inX12 hown hK hP 0 rfl rfl 9 (by decide) (hts (.fieldLink RX12 222 "SpellTurnerModel" "reforms" "I") im_40) (fun _ h9 => h9) rfl dX12_mixed_232 ?_
                            refine lv_icmp_gt (tgt := 289) hx hb dX12_mixed_235 (by decide) (fun c235 => ?_) (fun c235 => ?_)
                            · replace hr := iteT c235 hr
                              exact Jk289 d229_F67 H _ ls hr hP hD hS (lv_sub hl [0, 1, 2, 3, 4, 6] rfl)
                            · replace hr := iteF c235 hr
                              refine lv_aload_n hx hb dX12_mixed_238 rfl (lv_at hl 0 rfl) ?_
                              refine va_get (D := (dC, dI)) (ci := 12) (v := .ref (q 67)) (C := RX12) (T := TX12) (N := 71) hx hb hts inX12 hown hK hP 0 rfl rfl 67 (by decide) (hts (.fieldLink RX12 143 "SpellTurnerModel" "cost" "[I") im_234) (fun _ h9 => h9) rfl dX12_mixed_239 ?_
                              refine lv_bipush (v := 7) hx hb dX12_mixed_242 (by decide +kernel) ?_
                              refine lv_iload hx hb dX12_mixed_244 (lv_at hl 4 rfl) ?_
                              refine lv_imul hx hb dX12_mixed_246 ?_
                              refine lv_iload hx hb dX12_mixed_247 (lv_at hl 7 rfl) ?_
                              refine lv_iadd hx hb dX12_mixed_249 ?_
                              refine lv_dup2_11 hx hb dX12_mixed_250 rfl rfl ?_
                              replace hr := iteS hr
                              obtain ⟨hi251, hr⟩ := hr
                              refine va_iald (f := d229_F67) hx hb hK hP 43 1 rfl rfl (inbV hi251) dX12_mixed_251 ?_
                              refine lv_aload_n hx hb dX12_mixed_252 rfl (lv_at hl 0 rfl) ?_
                              refine lv_iload hx hb dX12_mixed_253 (lv_at hl 5 rfl) ?_
                              refine lv_iload hx hb dX12_mixed_255 (lv_at hl 6 rfl) ?_
                              replace hr := b1S hr
                              obtain ⟨r257z, hc257, hr⟩ := hr
                              have hFc := fr_all hD hS hA
                              refine va_calli (va_runV (As := [.int y113_5, .int x226_6]) (rest := [.int (d229_F67 (Int32.toNatClampNeg ((7 * y113_4) + y229_7))), .int ((7 * y113_4) + y229_7), .ref (q 67)]) ⟨hx, hb, hml, hown, hts⟩ (m_isName l dC dI H.size h0 kB kI kZ q (upd (upd (upd (upd (upd (upd (upd (upd g 1 0) 23 c79_g23) 27 c79_g27) 30 c79_g30) 34 c79_g34) 36 c79_g36) 39 c79_g39) 51 c79_g51) (upF (upF (upF (upF (upF (upF (upF (upF (upF (upF (upF (upF (upF (upF (upF (upF (upF F 22 c79_F22) 24 c79_F24) 25 c79_F25) 26 c79_F26) 28 c79_F28) 29 c79_F29) 31 c79_F31) 32 c79_F32) 33 c79_F33) 37 c79_F37) 38 c79_F38) 40 c79_F40) 41 c79_F41) 52 c79_F52) 53 c79_F53) 54 c79_F54) 67 d229_F67) y113_5 x226_6 r257z hc257) (cwV 2 hts gw_X12_isName_340 rfl rfl rfl (by decide +kernel) ⟨Nat.le_of_ble_eq_true rfl, Nat.le_of_ble_eq_true rfl⟩) ⟨fun a U g mk q => by obtain ⟨q0, q1, qP, qK, qD⟩ := q; exact ⟨q0, q1, qP, va_K.moved (u := U) (U := U.calling g mk a) (Vm.Alike.refl U.vm) qK, qD⟩, va_recv hK hP (ci := 12) (q0 := 0) rfl rfl, fun U hU hW => ⟨rfl, by rw [hU], by rw [hU]; exact hP, va_K.moved hW.alike hK, hD.weaken (fun _ _ _ _ => trivial)⟩⟩ rfl rfl hl.1 rfl (lv_room (Nat.le_of_ble_eq_true rfl)) dX12_mixed_257 ⟨Nat.le_of_ble_eq_true rfl, Nat.le_of_ble_eq_true rfl⟩) hS (fun q _ h => hFc q h) hFc (fun r257 u t H1 locs ht hvm hw hB hz1 hk1 hS => ?_)
                              replace hw : r257 = r257z := hw
                              subst hw
                              obtain ⟨hP1, hK1, hD1⟩ := hB
                              rw [ht] at hP1
                              obtain ⟨hP, hD⟩ := jn_all (w1 := (mW h0 kB kI kZ q (upd (upd (upd (upd (upd (upd (upd (upd g 1 0) 23 c79_g23) 27 c79_g27) 30 c79_g30) 34 c79_g34) 36 c79_g36) 39 c79_g39) 51 c79_g51) (upF (upF (upF (upF (upF (upF (upF (upF (upF (upF (upF (upF (upF (upF (upF (upF (upF F 22 c79_F22) 24 c79_F24) 25 c79_F25) 26 c79_F26) 28 c79_F28) 29 c79_F29) 31 c79_F31) 32 c79_F32) 33 c79_F33) 37 c79_F37) 38 c79_F38) 40 c79_F40) 41 c79_F41) 52 c79_F52) 53 c79_F53) 54 c79_F54) 67 d229_F67))) hFc hP1 hD1
                              clear hFc hP1 hK1 hD1 hk1 hz1 ht hvm
                              generalize H1 = H at hP hS ⊢
                              have hP : va_P (dC, dI) vwCl (mW h0 kB kI kZ q (upd (upd (upd (upd (upd (upd (upd (upd g 1 0) 23 c79_g23) 27 c79_g27) 30 c79_g30) 34 c79_g34) 36 c79_g36) 39 c79_g39) 51 c79_g51) (upF (upF (upF (upF (upF (upF (upF (upF (upF (upF (upF (upF (upF (upF (upF (upF (upF F 22 c79_F22) 24 c79_F24) 25 c79_F25) 26 c79_F26) 28 c79_F28) 29 c79_F29) 31 c79_F31) 32 c79_F32) 33 c79_F33) 37 c79_F37) 38 c79_F38) 40 c79_F40) 41 c79_F41) 52 c79_F52) 53 c79_F53) 54 c79_F54) 67 d229_F67)) H := hP
                              have hD : va_D A (mW h0 kB kI kZ q (upd (upd (upd (upd (upd (upd (upd (upd g 1 0) 23 c79_g23) 27 c79_g27) 30 c79_g30) 34 c79_g34) 36 c79_g36) 39 c79_g39) 51 c79_g51) (upF (upF (upF (upF (upF (upF (upF (upF (upF (upF (upF (upF (upF (upF (upF (upF (upF F 22 c79_F22) 24 c79_F24) 25 c79_F25) 26 c79_F26) 28 c79_F28) 29 c79_F29) 31 c79_F31) 32 c79_F32) 33 c79_F33) 37 c79_F37) 38 c79_F38) 40 c79_F40) 41 c79_F41) 52 c79_F52) 53 c79_F53) 54 c79_F54) 67 d229_F67)) := hD
                              replace hr := jnS hr
                              obtain ⟨j281, hj281, hr⟩ := hr
                              have Jj281 : ∀ (t281_0 : Int32) (H : Heap) (locs : List Loc) (ls : Array Slot), j281 t281_0 = some (r, c_g1, c_g23, c_g27, c_g30, c_g34, c_g36, c_g39, c_g51, c_g70, c_F22, c_F24, c_F25, c_F26, c_F28, c_F29, c_F31, c_F32, c_F33, c_F37, c_F38, c_F40, c_F41, c_F52, c_F53, c_F54, c_F67, c_F68, c_F69) → va_P (dC, dI) vwCl (mW h0 kB kI kZ q (upd (upd (upd (upd (upd (upd (upd (upd g 1 0) 23 c79_g23) 27 c79_g27) 30 c79_g30) 34 c79_g34) 36 c79_g36) 39 c79_g39) 51 c79_g51) (upF (upF (upF (upF (upF (upF (upF (upF (upF (upF (upF (upF (upF (upF (upF (upF (upF F 22 c79_F22) 24 c79_F24) 25 c79_F25) 26 c79_F26) 28 c79_F28) 29 c79_F29) 31 c79_F31) 32 c79_F32) 33 c79_F33) 37 c79_F37) 38 c79_F38) 40 c79_F40) 41 c79_F41) 52 c79_F52) 53 c79_F53) 54 c79_F54) 67 d229_F67)) H → va_D A (mW h0 kB kI kZ q (upd (upd (upd (upd (upd (upd (upd (upd g 1 0) 23 c79_g23) 27 c79_g27) 30 c79_g30) 34 c79_g34) 36 c79_g36) 39 c79_g39) 51 c79_g51) (upF (upF (upF (upF (upF (upF (upF (upF (upF (upF (upF (upF (upF (upF (upF (upF (upF F 22 c79_F22) 24 c79_F24) 25 c79_F25) 26 c79_F26) 28 c79_F28) 29 c79_F29) 31 c79_F31) 32 c79_F32) 33 c79_F33) 37 c79_F37) 38 c79_F38) 40 c79_F40) 41 c79_F41) 52 c79_F52) 53 c79_F53) 54 c79_F54) 67 d229_F67)) → va_S A s.heap H locs → lv_has ls 11 [(0, .ref h0), (1, .int p0), (2, .int (g 1)), (3, .int x70_3), (4, .int y113_4), (5, .int y113_5), (6, .int x226_6), (7, .int y229_7)] → W p l e ({ frames := 48, cells := 0, slots := 0, locals := 1171 } : Room) s m args below meth c H locs 0 0 Q (F0 m 281 ls [.int t281_0, .int (d229_F67 (Int32.toNatClampNeg ((7 * y113_4) + y229_7))), .int ((7 * y113_4) + y229_7), .ref (q 67)]) := by
                                intro t281_0 H locs ls hr hP hD hS hl
                                rw [hj281] at hr
                                refine lv_iadd hx hb dX12_mixed_281 ?_
                                replace hr := iteS hr
                                obtain ⟨hi282, hr⟩ := hr
                                refine va_iast (f := d229_F67) hx hb hK hP hD hS 43 1 rfl rfl (inbV hi282) dX12_mixed_282 (fun H locs hP hD hS => ?_)
                                obtain ⟨w282, ew282, hP, hD⟩ : ∃ w282 : Nat → Int32, w282 = (upd d229_F67 (Int32.toNatClampNeg ((7 * y113_4) + y229_7)) ((d229_F67 (Int32.toNatClampNeg ((7 * y113_4) + y229_7))) + t281_0)) ∧ va_P (dC, dI) vwCl (mW h0 kB kI kZ q (upd (upd (upd (upd (upd (upd (upd (upd g 1 0) 23 c79_g23) 27 c79_g27) 30 c79_g30) 34 c79_g34) 36 c79_g36) 39 c79_g39) 51 c79_g51) (upF (upF (upF (upF (upF (upF (upF (upF (upF (upF (upF (upF (upF (upF (upF (upF (upF F 22 c79_F22) 24 c79_F24) 25 c79_F25) 26 c79_F26) 28 c79_F28) 29 c79_F29) 31 c79_F31) 32 c79_F32) 33 c79_F33) 37 c79_F37) 38 c79_F38) 40 c79_F40) 41 c79_F41) 52 c79_F52) 53 c79_F53) 54 c79_F54) 67 w282)) H ∧ va_D A (mW h0 kB kI kZ q (upd (upd (upd (upd (upd (upd (upd (upd g 1 0) 23 c79_g23) 27 c79_g27) 30 c79_g30) 34 c79_g34) 36 c79_g36) 39 c79_g39) 51 c79_g51) (upF (upF (upF (upF (upF (upF (upF (upF (upF (upF (upF (upF (upF (upF (upF (upF (upF F 22 c79_F22) 24 c79_F24) 25 c79_F25) 26 c79_F26) 28 c79_F28) 29 c79_F29) 31 c79_F31) 32 c79_F32) 33 c79_F33) 37 c79_F37) 38 c79_F38) 40 c79_F40) 41 c79_F41) 52 c79_F52) 53 c79_F53) 54 c79_F54) 67 w282)) := ⟨(upd d229_F67 (Int32.toNatClampNeg ((7 * y113_4) + y229_7)) ((d229_F67 (Int32.toNatClampNeg ((7 * y113_4) + y229_7))) + t281_0)), rfl, by first | exact sP_F67 hP upF_same | exact sP_F67 hP rfl | exact hP, by first | exact sD_F67 hD upF_same | exact sD_F67 hD rfl | exact hD⟩
                                replace hr := vlS hr w282 ew282
                                clear ew282
                                refine lv_iinc (v := (y229_7 + 1)) (lv' := [(7, .int (y229_7 + 1)), (0, .ref h0), (1, .int p0), (2, .int (g 1)), (3, .int x70_3), (4, .int y113_4), (5, .int y113_5), (6, .int x226_6)]) hx hb dX12_mixed_283 hl (k := 7) rfl rfl (by decide) rfl (fun ls hl => ?_)
                                refine lv_goto (tgt := 229) hx hb dX12_mixed_286 (by decide) ?_
                                exact ih229 (y229_7 + 1) w282 H _ ls hr hP hD hS (lv_sub hl [1, 2, 3, 4, 5, 6, 7, 0] rfl)
                              replace hr := jnS hr
                              obtain ⟨j276, hj276, hr⟩ := hr
                              have Jj276 : ∀ (H : Heap) (locs : List Loc) (ls : Array Slot), j276 () = some (r, c_g1, c_g23, c_g27, c_g30, c_g34, c_g36, c_g39, c_g51, c_g70, c_F22, c_F24, c_F25, c_F26, c_F28, c_F29, c_F31, c_F32, c_F33, c_F37, c_F38, c_F40, c_F41, c_F52, c_F53, c_F54, c_F67, c_F68, c_F69) → va_P (dC, dI) vwCl (mW h0 kB kI kZ q (upd (upd (upd (upd (upd (upd (upd (upd g 1 0) 23 c79_g23) 27 c79_g27) 30 c79_g30) 34 c79_g34) 36 c79_g36) 39 c79_g39) 51 c79_g51) (upF (upF (upF (upF (upF (upF (upF (upF (upF (upF (upF (upF (upF (upF (upF (upF (upF F 22 c79_F22) 24 c79_F24) 25 c79_F25) 26 c79_F26) 28 c79_F28) 29 c79_F29) 31 c79_F31) 32 c79_F32) 33 c79_F33) 37 c79_F37) 38 c79_F38) 40 c79_F40) 41 c79_F41) 52 c79_F52) 53 c79_F53) 54 c79_F54) 67 d229_F67)) H → va_D A (mW h0 kB kI kZ q (upd (upd (upd (upd (upd (upd (upd (upd g 1 0) 23 c79_g23) 27 c79_g27) 30 c79_g30) 34 c79_g34) 36 c79_g36) 39 c79_g39) 51 c79_g51) (upF (upF (upF (upF (upF (upF (upF (upF (upF (upF (upF (upF (upF (upF (upF (upF (upF F 22 c79_F22) 24 c79_F24) 25 c79_F25) 26 c79_F26) 28 c79_F28) 29 c79_F29) 31 c79_F31) 32 c79_F32) 33 c79_F33) 37 c79_F37) 38 c79_F38) 40 c79_F40) 41 c79_F41) 52 c79_F52) 53 c79_F53) 54 c79_F54) 67 d229_F67)) → va_S A s.heap H locs → lv_has ls 11 [(0, .ref h0), (1, .int p0), (2, .int (g 1)), (3, .int x70_3), (4, .int y113_4), (5, .int y113_5), (6, .int x226_6), (7, .int y229_7)] → W p l e ({ frames := 48, cells := 0, slots := 0, locals := 1171 } : Room) s m args below meth c H locs 0 0 Q (F0 m 276 ls [.int (d229_F67 (Int32.toNatClampNeg ((7 * y113_4) + y229_7))), .int ((7 * y113_4) + y229_7), .ref (q 67)]) := by
                                intro H locs ls hr hP hD hS hl
                                rw [hj276] at hr
                                refine lv_iconst (v := 0) hx hb dX12_mixed_276 (by decide +kernel) ?_
                                refine lv_goto (tgt := 281) hx hb dX12_mixed_277 (by decide) ?_
                                exact Jj281 0 H _ ls hr hP hD hS (lv_sub hl [0, 1, 2, 3, 4, 5, 6, 7] rfl)
                              refine lv_if_ne (tgt := 276) hx hb dX12_mixed_260 (by decide) (fun c260 => ?_) (fun c260 => ?_)
                              · replace hr := iteF c260 hr
                                exact Jj276 H _ ls hr hP hD hS (lv_sub hl [0, 1, 2, 3, 4, 5, 6, 7] rfl)
                              · replace hr := iteT c260 hr
                                refine lv_aload_n hx hb dX12_mixed_263 rfl (lv_at hl 0 rfl) ?_
                                refine lv_iload hx hb dX12_mixed_264 (lv_at hl 7 rfl) ?_
                                refine lv_iload hx hb dX12_mixed_266 (lv_at hl 5 rfl) ?_
                                refine lv_iload hx hb dX12_mixed_268 (lv_at hl 6 rfl) ?_
                                replace hr := b1S hr
                                obtain ⟨r270z, hc270, hr⟩ := hr
                                have hFc := fr_all hD hS hA
                                refine va_calli (va_runV (As := [.int y229_7, .int y113_5, .int x226_6]) (rest := [.int (d229_F67 (Int32.toNatClampNeg ((7 * y113_4) + y229_7))), .int ((7 * y113_4) + y229_7), .ref (q 67)]) ⟨hx, hb, hml, hown, hts⟩ (m_isKnown l dC dI H.size h0 kB kI kZ q (upd (upd (upd (upd (upd (upd (upd (upd g 1 0) 23 c79_g23) 27 c79_g27) 30 c79_g30) 34 c79_g34) 36 c79_g36) 39 c79_g39) 51 c79_g51) (upF (upF (upF (upF (upF (upF (upF (upF (upF (upF (upF (upF (upF (upF (upF (upF (upF F 22 c79_F22) 24 c79_F24) 25 c79_F25) 26 c79_F26) 28 c79_F28) 29 c79_F29) 31 c79_F31) 32 c79_F32) 33 c79_F33) 37 c79_F37) 38 c79_F38) 40 c79_F40) 41 c79_F41) 52 c79_F52) 53 c79_F53) 54 c79_F54) 67 d229_F67) y229_7 y113_5 x226_6 r270z hc270) (cwV 3 hts gw_X12_isKnown_367 rfl rfl rfl (by decide +kernel) ⟨Nat.le_of_ble_eq_true rfl, Nat.le_of_ble_eq_true rfl⟩) ⟨fun a U g mk q => by obtain ⟨q0, q1, qP, qK, qD⟩ := q; exact ⟨q0, q1, qP, va_K.moved (u := U) (U := U.calling g mk a) (Vm.Alike.refl U.vm) qK, qD⟩, va_recv hK hP (ci := 12) (q0 := 0) rfl rfl, fun U hU hW => ⟨rfl, by rw [hU], by rw [hU]; exact hP, va_K.moved hW.alike hK, hD.weaken (fun _ _ _ _ => trivial)⟩⟩ rfl rfl hl.1 rfl (lv_room (Nat.le_of_ble_eq_true rfl)) dX12_mixed_270 ⟨Nat.le_of_ble_eq_true rfl, Nat.le_of_ble_eq_true rfl⟩) hS (fun q _ h => hFc q h) hFc (fun r270 u t H1 locs ht hvm hw hB hz1 hk1 hS => ?_)
                                replace hw : r270 = r270z := hw
                                subst hw
                                obtain ⟨hP1, hK1, hD1⟩ := hB
                                rw [ht] at hP1
                                obtain ⟨hP, hD⟩ := jn_all (w1 := (mW h0 kB kI kZ q (upd (upd (upd (upd (upd (upd (upd (upd g 1 0) 23 c79_g23) 27 c79_g27) 30 c79_g30) 34 c79_g34) 36 c79_g36) 39 c79_g39) 51 c79_g51) (upF (upF (upF (upF (upF (upF (upF (upF (upF (upF (upF (upF (upF (upF (upF (upF (upF F 22 c79_F22) 24 c79_F24) 25 c79_F25) 26 c79_F26) 28 c79_F28) 29 c79_F29) 31 c79_F31) 32 c79_F32) 33 c79_F33) 37 c79_F37) 38 c79_F38) 40 c79_F40) 41 c79_F41) 52 c79_F52) 53 c79_F53) 54 c79_F54) 67 d229_F67))) hFc hP1 hD1
                                clear hFc hP1 hK1 hD1 hk1 hz1 ht hvm
                                generalize H1 = H at hP hS ⊢
                                have hP : va_P (dC, dI) vwCl (mW h0 kB kI kZ q (upd (upd (upd (upd (upd (upd (upd (upd g 1 0) 23 c79_g23) 27 c79_g27) 30 c79_g30) 34 c79_g34) 36 c79_g36) 39 c79_g39) 51 c79_g51) (upF (upF (upF (upF (upF (upF (upF (upF (upF (upF (upF (upF (upF (upF (upF (upF (upF F 22 c79_F22) 24 c79_F24) 25 c79_F25) 26 c79_F26) 28 c79_F28) 29 c79_F29) 31 c79_F31) 32 c79_F32) 33 c79_F33) 37 c79_F37) 38 c79_F38) 40 c79_F40) 41 c79_F41) 52 c79_F52) 53 c79_F53) 54 c79_F54) 67 d229_F67)) H := hP
                                have hD : va_D A (mW h0 kB kI kZ q (upd (upd (upd (upd (upd (upd (upd (upd g 1 0) 23 c79_g23) 27 c79_g27) 30 c79_g30) 34 c79_g34) 36 c79_g36) 39 c79_g39) 51 c79_g51) (upF (upF (upF (upF (upF (upF (upF (upF (upF (upF (upF (upF (upF (upF (upF (upF (upF F 22 c79_F22) 24 c79_F24) 25 c79_F25) 26 c79_F26) 28 c79_F28) 29 c79_F29) 31 c79_F31) 32 c79_F32) 33 c79_F33) 37 c79_F37) 38 c79_F38) 40 c79_F40) 41 c79_F41) 52 c79_F52) 53 c79_F53) 54 c79_F54) 67 d229_F67)) := hD
                                refine lv_if_eq (tgt := 280) hx hb dX12_mixed_273 (by decide) (fun c273 => ?_) (fun c273 => ?_)
                                · replace hr := iteT c273 hr
                                  refine lv_iconst (v := 1) hx hb dX12_mixed_280 (by decide +kernel) ?_
                                  exact Jj281 1 H _ ls hr hP hD hS (lv_sub hl [0, 1, 2, 3, 4, 5, 6, 7] rfl)
                                · replace hr := iteF c273 hr
                                  exact Jj276 H _ ls hr hP hD hS (lv_sub hl [0, 1, 2, 3, 4, 5, 6, 7] rfl)
                        exact lp229 NN 0 d113_F67 H _ ls hr hP hD hS (lv_sub hl [1, 2, 3, 4, 5, 6, 7, 0] rfl)
                      have lp201 : ∀ (n201 : Nat) (y201_6 : Int32) (H : Heap) (locs : List Loc) (ls : Array Slot), L_mixed_201 g F k226 n201 y201_6 = some (r, c_g1, c_g23, c_g27, c_g30, c_g34, c_g36, c_g39, c_g51, c_g70, c_F22, c_F24, c_F25, c_F26, c_F28, c_F29, c_F31, c_F32, c_F33, c_F37, c_F38, c_F40, c_F41, c_F52, c_F53, c_F54, c_F67, c_F68, c_F69) → va_P (dC, dI) vwCl (mW h0 kB kI kZ q (upd (upd (upd (upd (upd (upd (upd (upd g 1 0) 23 c79_g23) 27 c79_g27) 30 c79_g30) 34 c79_g34) 36 c79_g36) 39 c79_g39) 51 c79_g51) (upF (upF (upF (upF (upF (upF (upF (upF (upF (upF (upF (upF (upF (upF (upF (upF (upF F 22 c79_F22) 24 c79_F24) 25 c79_F25) 26 c79_F26) 28 c79_F28) 29 c79_F29) 31 c79_F31) 32 c79_F32) 33 c79_F33) 37 c79_F37) 38 c79_F38) 40 c79_F40) 41 c79_F41) 52 c79_F52) 53 c79_F53) 54 c79_F54) 67 d113_F67)) H → va_D A (mW h0 kB kI kZ q (upd (upd (upd (upd (upd (upd (upd (upd g 1 0) 23 c79_g23) 27 c79_g27) 30 c79_g30) 34 c79_g34) 36 c79_g36) 39 c79_g39) 51 c79_g51) (upF (upF (upF (upF (upF (upF (upF (upF (upF (upF (upF (upF (upF (upF (upF (upF (upF F 22 c79_F22) 24 c79_F24) 25 c79_F25) 26 c79_F26) 28 c79_F28) 29 c79_F29) 31 c79_F31) 32 c79_F32) 33 c79_F33) 37 c79_F37) 38 c79_F38) 40 c79_F40) 41 c79_F41) 52 c79_F52) 53 c79_F53) 54 c79_F54) 67 d113_F67)) → va_S A s.heap H locs → lv_has ls 11 [(0, .ref h0), (1, .int p0), (2, .int (g 1)), (3, .int x70_3), (4, .int y113_4), (5, .int y113_5), (6, .int y201_6)] → W p l e ({ frames := 48, cells := 0, slots := 0, locals := 1171 } : Room) s m args below meth c H locs 0 0 Q (F0 m 201 ls []) := by
                        intro n201
                        induction n201 with
                        | zero => intro y201_6 H locs ls hr; exact nomatch (show none = some (r, c_g1, c_g23, c_g27, c_g30, c_g34, c_g36, c_g39, c_g51, c_g70, c_F22, c_F24, c_F25, c_F26, c_F28, c_F29, c_F31, c_F32, c_F33, c_F37, c_F38, c_F40, c_F41, c_F52, c_F53, c_F54, c_F67, c_F68, c_F69) from hr)
                        | succ n201 ih201 =>
                          intro y201_6 H locs ls hr hP hD hS hl
                          replace hr : B_mixed_201 g F k226 (L_mixed_201 g F k226 n201) y201_6 = some (r, c_g1, c_g23, c_g27, c_g30, c_g34, c_g36, c_g39, c_g51, c_g70, c_F22, c_F24, c_F25, c_F26, c_F28, c_F29, c_F31, c_F32, c_F33, c_F37, c_F38, c_F40, c_F41, c_F52, c_F53, c_F54, c_F67, c_F68, c_F69) := hr
                          unfold B_mixed_201 at hr
                          refine lv_iload hx hb dX12_mixed_201 (lv_at hl 6 rfl) ?_
                          refine lv_iload_n hx hb dX12_mixed_203 rfl (lv_at hl 2 rfl) ?_
                          refine lv_icmp_ge (tgt := 226) hx hb dX12_mixed_204 (by decide) (fun c204 => ?_) (fun c204 => ?_)
                          · replace hr := iteT c204 hr
                            exact Jk226 y201_6 H _ ls hr hP hD hS (lv_sub hl [0, 1, 2, 3, 4, 5, 6] rfl)
                          · replace hr := iteF c204 hr
                            refine lv_aload_n hx hb dX12_mixed_207 rfl (lv_at hl 0 rfl) ?_
                            refine va_get (D := (dC, dI)) (ci := 12) (v := .ref (q 0)) (C := RX12) (T := TX12) (N := 71) hx hb hts inX12 hown hK hP 0 rfl rfl 0 (by decide) (hts (.fieldLink RX12 7 "SpellTurnerModel" "tape" "[B") im_34) (fun _ h9 => h9) rfl dX12_mixed_208 ?_
                            refine lv_iload hx hb dX12_mixed_211 (lv_at hl 6 rfl) ?_
                            replace hr := iteS hr
                            obtain ⟨hi213, hr⟩ := hr
                            refine va_bald (f := (F 0)) hx hb hK hP 1 0 rfl rfl (inbV hi213) dX12_mixed_213 ?_
                            replace hr := b1S hr
                            obtain ⟨r214z, hc214, hr⟩ := hr
                            have hFc := fr_all hD hS hA
                            refine va_calli (va_runS (As := [.int ((F 0) (Int32.toNatClampNeg y201_6))]) (rest := []) ⟨hx, hb, hml, hown, hts⟩ (m_isLetter l dC dI H.size h0 kB kI kZ q (upd (upd (upd (upd (upd (upd (upd (upd g 1 0) 23 c79_g23) 27 c79_g27) 30 c79_g30) 34 c79_g34) 36 c79_g36) 39 c79_g39) 51 c79_g51) (upF (upF (upF (upF (upF (upF (upF (upF (upF (upF (upF (upF (upF (upF (upF (upF (upF F 22 c79_F22) 24 c79_F24) 25 c79_F25) 26 c79_F26) 28 c79_F28) 29 c79_F29) 31 c79_F31) 32 c79_F32) 33 c79_F33) 37 c79_F37) 38 c79_F38) 40 c79_F40) 41 c79_F41) 52 c79_F52) 53 c79_F53) 54 c79_F54) 67 d113_F67) ((F 0) (Int32.toNatClampNeg y201_6)) r214z hc214) (va_cwS 1 hts gw_X12_isLetter_354 rfl rfl rfl (by decide +kernel) ⟨Nat.le_of_ble_eq_true rfl, Nat.le_of_ble_eq_true rfl⟩) ⟨fun a U g mk q => by obtain ⟨q0, q1, qP, qK, qD⟩ := q; exact ⟨q0, q1, qP, va_K.moved (u := U) (U := U.calling g mk a) (Vm.Alike.refl U.vm) qK, qD⟩, fun U hU hW => ⟨rfl, by rw [hU], by rw [hU]; exact hP, va_K.moved hW.alike hK, hD.weaken (fun _ _ _ _ => trivial)⟩⟩ rfl rfl hl.1 rfl (lv_room (Nat.le_of_ble_eq_true rfl)) dX12_mixed_214 ⟨Nat.le_of_ble_eq_true rfl, Nat.le_of_ble_eq_true rfl⟩) hS (fun q _ h => hFc q h) hFc (fun r214 u t H1 locs ht hvm hw hB hz1 hk1 hS => ?_)
                            replace hw : r214 = r214z := hw
                            subst hw
                            obtain ⟨hP1, hK1, hD1⟩ := hB
                            rw [ht] at hP1
                            obtain ⟨hP, hD⟩ := jn_all (w1 := (mW h0 kB kI kZ q (upd (upd (upd (upd (upd (upd (upd (upd g 1 0) 23 c79_g23) 27 c79_g27) 30 c79_g30) 34 c79_g34) 36 c79_g36) 39 c79_g39) 51 c79_g51) (upF (upF (upF (upF (upF (upF (upF (upF (upF (upF (upF (upF (upF (upF (upF (upF (upF F 22 c79_F22) 24 c79_F24) 25 c79_F25) 26 c79_F26) 28 c79_F28) 29 c79_F29) 31 c79_F31) 32 c79_F32) 33 c79_F33) 37 c79_F37) 38 c79_F38) 40 c79_F40) 41 c79_F41) 52 c79_F52) 53 c79_F53) 54 c79_F54) 67 d113_F67))) hFc hP1 hD1
                            clear hFc hP1 hK1 hD1 hk1 hz1 ht hvm
                            generalize H1 = H at hP hS ⊢
                            have hP : va_P (dC, dI) vwCl (mW h0 kB kI kZ q (upd (upd (upd (upd (upd (upd (upd (upd g 1 0) 23 c79_g23) 27 c79_g27) 30 c79_g30) 34 c79_g34) 36 c79_g36) 39 c79_g39) 51 c79_g51) (upF (upF (upF (upF (upF (upF (upF (upF (upF (upF (upF (upF (upF (upF (upF (upF (upF F 22 c79_F22) 24 c79_F24) 25 c79_F25) 26 c79_F26) 28 c79_F28) 29 c79_F29) 31 c79_F31) 32 c79_F32) 33 c79_F33) 37 c79_F37) 38 c79_F38) 40 c79_F40) 41 c79_F41) 52 c79_F52) 53 c79_F53) 54 c79_F54) 67 d113_F67)) H := hP
                            have hD : va_D A (mW h0 kB kI kZ q (upd (upd (upd (upd (upd (upd (upd (upd g 1 0) 23 c79_g23) 27 c79_g27) 30 c79_g30) 34 c79_g34) 36 c79_g36) 39 c79_g39) 51 c79_g51) (upF (upF (upF (upF (upF (upF (upF (upF (upF (upF (upF (upF (upF (upF (upF (upF (upF F 22 c79_F22) 24 c79_F24) 25 c79_F25) 26 c79_F26) 28 c79_F28) 29 c79_F29) 31 c79_F31) 32 c79_F32) 33 c79_F33) 37 c79_F37) 38 c79_F38) 40 c79_F40) 41 c79_F41) 52 c79_F52) 53 c79_F53) 54 c79_F54) 67 d113_F67)) := hD
                            refine lv_if_eq (tgt := 226) hx hb dX12_mixed_217 (by decide) (fun c217 => ?_) (fun c217 => ?_)
                            · replace hr := iteT c217 hr
                              exact Jk226 y201_6 H _ ls hr hP hD hS (lv_sub hl [0, 1, 2, 3, 4, 5, 6] rfl)
                            · replace hr := iteF c217 hr
                              refine lv_iinc (v := (y201_6 + 1)) (lv' := [(6, .int (y201_6 + 1)), (0, .ref h0), (1, .int p0), (2, .int (g 1)), (3, .int x70_3), (4, .int y113_4), (5, .int y113_5)]) hx hb dX12_mixed_220 hl (k := 6) rfl rfl (by decide) rfl (fun ls hl => ?_)
                              refine lv_goto (tgt := 201) hx hb dX12_mixed_223 (by decide) ?_
                              exact ih201 (y201_6 + 1) H _ ls hr hP hD hS (lv_sub hl [1, 2, 3, 4, 5, 6, 0] rfl)
                      exact lp201 NN x123 H _ ls hr hP hD hS (lv_sub hl [1, 2, 3, 4, 5, 6, 0] rfl)
                  · replace hr := iteT c134 hr
                    refine lv_aload_n hx hb dX12_mixed_137 rfl (lv_at hl 1 rfl) ?_
                    refine lv_iload hx hb dX12_mixed_138 (lv_at hl 6 rfl) ?_
                    refine lv_iload_n hx hb dX12_mixed_140 rfl (lv_at hl 3 rfl) ?_
                    replace hr := b1S hr
                    obtain ⟨r141z, hc141, hr⟩ := hr
                    have hFc := fr_all hD hS hA
                    refine va_calli (va_runV (As := [.int y113_5, .int (g 1)]) (rest := []) ⟨hx, hb, hml, hown, hts⟩ (m_quoted l dC dI H.size h0 kB kI kZ q (upd (upd (upd (upd (upd (upd (upd (upd g 1 0) 23 c79_g23) 27 c79_g27) 30 c79_g30) 34 c79_g34) 36 c79_g36) 39 c79_g39) 51 c79_g51) (upF (upF (upF (upF (upF (upF (upF (upF (upF (upF (upF (upF (upF (upF (upF (upF (upF F 22 c79_F22) 24 c79_F24) 25 c79_F25) 26 c79_F26) 28 c79_F28) 29 c79_F29) 31 c79_F31) 32 c79_F32) 33 c79_F33) 37 c79_F37) 38 c79_F38) 40 c79_F40) 41 c79_F41) 52 c79_F52) 53 c79_F53) 54 c79_F54) 67 d113_F67) y113_5 (g 1) r141z hc141) (cwV 2 hts gw_X12_quoted_351 rfl rfl rfl (by decide +kernel) ⟨Nat.le_of_ble_eq_true rfl, Nat.le_of_ble_eq_true rfl⟩) ⟨fun a U g mk q => by obtain ⟨q0, q1, qP, qK, qD⟩ := q; exact ⟨q0, q1, qP, va_K.moved (u := U) (U := U.calling g mk a) (Vm.Alike.refl U.vm) qK, qD⟩, va_recv hK hP (ci := 12) (q0 := 0) rfl rfl, fun U hU hW => ⟨rfl, by rw [hU], by rw [hU]; exact hP, va_K.moved hW.alike hK, hD.weaken (fun _ _ _ _ => trivial)⟩⟩ rfl rfl hl.1 rfl (lv_room (Nat.le_of_ble_eq_true rfl)) dX12_mixed_141 ⟨Nat.le_of_ble_eq_true rfl, Nat.le_of_ble_eq_true rfl⟩) hS (fun q _ h => hFc q h) hFc (fun r141 u t H1 locs ht hvm hw hB hz1 hk1 hS => ?_)
                    replace hw : r141 = r141z := hw
                    subst hw
                    obtain ⟨hP1, hK1, hD1⟩ := hB
                    rw [ht] at hP1
                    obtain ⟨hP, hD⟩ := jn_all (w1 := (mW h0 kB kI kZ q (upd (upd (upd (upd (upd (upd (upd (upd g 1 0) 23 c79_g23) 27 c79_g27) 30 c79_g30) 34 c79_g34) 36 c79_g36) 39 c79_g39) 51 c79_g51) (upF (upF (upF (upF (upF (upF (upF (upF (upF (upF (upF (upF (upF (upF (upF (upF (upF F 22 c79_F22) 24 c79_F24) 25 c79_F25) 26 c79_F26) 28 c79_F28) 29 c79_F29) 31 c79_F31) 32 c79_F32) 33 c79_F33) 37 c79_F37) 38 c79_F38) 40 c79_F40) 41 c79_F41) 52 c79_F52) 53 c79_F53) 54 c79_F54) 67 d113_F67))) hFc hP1 hD1
                    clear hFc hP1 hK1 hD1 hk1 hz1 ht hvm
                    generalize H1 = H at hP hS ⊢
                    have hP : va_P (dC, dI) vwCl (mW h0 kB kI kZ q (upd (upd (upd (upd (upd (upd (upd (upd g 1 0) 23 c79_g23) 27 c79_g27) 30 c79_g30) 34 c79_g34) 36 c79_g36) 39 c79_g39) 51 c79_g51) (upF (upF (upF (upF (upF (upF (upF (upF (upF (upF (upF (upF (upF (upF (upF (upF (upF F 22 c79_F22) 24 c79_F24) 25 c79_F25) 26 c79_F26) 28 c79_F28) 29 c79_F29) 31 c79_F31) 32 c79_F32) 33 c79_F33) 37 c79_F37) 38 c79_F38) 40 c79_F40) 41 c79_F41) 52 c79_F52) 53 c79_F53) 54 c79_F54) 67 d113_F67)) H := hP
                    have hD : va_D A (mW h0 kB kI kZ q (upd (upd (upd (upd (upd (upd (upd (upd g 1 0) 23 c79_g23) 27 c79_g27) 30 c79_g30) 34 c79_g34) 36 c79_g36) 39 c79_g39) 51 c79_g51) (upF (upF (upF (upF (upF (upF (upF (upF (upF (upF (upF (upF (upF (upF (upF (upF (upF F 22 c79_F22) 24 c79_F24) 25 c79_F25) 26 c79_F26) 28 c79_F28) 29 c79_F29) 31 c79_F31) 32 c79_F32) 33 c79_F33) 37 c79_F37) 38 c79_F38) 40 c79_F40) 41 c79_F41) 52 c79_F52) 53 c79_F53) 54 c79_F54) 67 d113_F67)) := hD
                    refine lv_istore (lv' := [(6, .int r141), (0, .ref h0), (1, .int p0), (2, .int (g 1)), (3, .int x70_3), (4, .int y113_4), (5, .int y113_5)]) hx hb dX12_mixed_144 hl (by decide) rfl (fun ls hl => ?_)
                    refine lv_iload hx hb dX12_mixed_146 (lv_at hl 6 rfl) ?_
                    refine lv_istore (lv' := [(7, .int y113_5), (6, .int r141), (0, .ref h0), (1, .int p0), (2, .int (g 1)), (3, .int x70_3), (4, .int y113_4), (5, .int y113_5)]) hx hb dX12_mixed_148 hl (by decide) rfl (fun ls hl => ?_)
                    replace hr := jnS hr
                    obtain ⟨k185, hk185, hr⟩ := hr
                    have Jk185 : ∀ (x185_4 : Int32) (H : Heap) (locs : List Loc) (ls : Array Slot), k185 x185_4 = some (r, c_g1, c_g23, c_g27, c_g30, c_g34, c_g36, c_g39, c_g51, c_g70, c_F22, c_F24, c_F25, c_F26, c_F28, c_F29, c_F31, c_F32, c_F33, c_F37, c_F38, c_F40, c_F41, c_F52, c_F53, c_F54, c_F67, c_F68, c_F69) → va_P (dC, dI) vwCl (mW h0 kB kI kZ q (upd (upd (upd (upd (upd (upd (upd (upd g 1 0) 23 c79_g23) 27 c79_g27) 30 c79_g30) 34 c79_g34) 36 c79_g36) 39 c79_g39) 51 c79_g51) (upF (upF (upF (upF (upF (upF (upF (upF (upF (upF (upF (upF (upF (upF (upF (upF (upF F 22 c79_F22) 24 c79_F24) 25 c79_F25) 26 c79_F26) 28 c79_F28) 29 c79_F29) 31 c79_F31) 32 c79_F32) 33 c79_F33) 37 c79_F37) 38 c79_F38) 40 c79_F40) 41 c79_F41) 52 c79_F52) 53 c79_F53) 54 c79_F54) 67 d113_F67)) H → va_D A (mW h0 kB kI kZ q (upd (upd (upd (upd (upd (upd (upd (upd g 1 0) 23 c79_g23) 27 c79_g27) 30 c79_g30) 34 c79_g34) 36 c79_g36) 39 c79_g39) 51 c79_g51) (upF (upF (upF (upF (upF (upF (upF (upF (upF (upF (upF (upF (upF (upF (upF (upF (upF F 22 c79_F22) 24 c79_F24) 25 c79_F25) 26 c79_F26) 28 c79_F28) 29 c79_F29) 31 c79_F31) 32 c79_F32) 33 c79_F33) 37 c79_F37) 38 c79_F38) 40 c79_F40) 41 c79_F41) 52 c79_F52) 53 c79_F53) 54 c79_F54) 67 d113_F67)) → va_S A s.heap H locs → lv_has ls 11 [(0, .ref h0), (1, .int p0), (2, .int (g 1)), (3, .int x70_3), (4, .int x185_4), (6, .int r141)] → W p l e ({ frames := 48, cells := 0, slots := 0, locals := 1171 } : Room) s m args below meth c H locs 0 0 Q (F0 m 185 ls []) := by
                      intro x185_4 H locs ls hr hP hD hS hl
                      rw [hk185] at hr
                      refine lv_goto (tgt := 307) hx hb dX12_mixed_185 (by decide) ?_
                      exact Jj307 x185_4 r141 d113_F67 H _ ls hr hP hD hS (lv_sub hl [0, 1, 2, 3, 4, 5] rfl)
                    have lp150 : ∀ (n150 : Nat) (y150_4 : Int32) (y150_7 : Int32) (H : Heap) (locs : List Loc) (ls : Array Slot), L_mixed_150 F r141 k185 n150 y150_4 y150_7 = some (r, c_g1, c_g23, c_g27, c_g30, c_g34, c_g36, c_g39, c_g51, c_g70, c_F22, c_F24, c_F25, c_F26, c_F28, c_F29, c_F31, c_F32, c_F33, c_F37, c_F38, c_F40, c_F41, c_F52, c_F53, c_F54, c_F67, c_F68, c_F69) → va_P (dC, dI) vwCl (mW h0 kB kI kZ q (upd (upd (upd (upd (upd (upd (upd (upd g 1 0) 23 c79_g23) 27 c79_g27) 30 c79_g30) 34 c79_g34) 36 c79_g36) 39 c79_g39) 51 c79_g51) (upF (upF (upF (upF (upF (upF (upF (upF (upF (upF (upF (upF (upF (upF (upF (upF (upF F 22 c79_F22) 24 c79_F24) 25 c79_F25) 26 c79_F26) 28 c79_F28) 29 c79_F29) 31 c79_F31) 32 c79_F32) 33 c79_F33) 37 c79_F37) 38 c79_F38) 40 c79_F40) 41 c79_F41) 52 c79_F52) 53 c79_F53) 54 c79_F54) 67 d113_F67)) H → va_D A (mW h0 kB kI kZ q (upd (upd (upd (upd (upd (upd (upd (upd g 1 0) 23 c79_g23) 27 c79_g27) 30 c79_g30) 34 c79_g34) 36 c79_g36) 39 c79_g39) 51 c79_g51) (upF (upF (upF (upF (upF (upF (upF (upF (upF (upF (upF (upF (upF (upF (upF (upF (upF F 22 c79_F22) 24 c79_F24) 25 c79_F25) 26 c79_F26) 28 c79_F28) 29 c79_F29) 31 c79_F31) 32 c79_F32) 33 c79_F33) 37 c79_F37) 38 c79_F38) 40 c79_F40) 41 c79_F41) 52 c79_F52) 53 c79_F53) 54 c79_F54) 67 d113_F67)) → va_S A s.heap H locs → lv_has ls 11 [(0, .ref h0), (1, .int p0), (2, .int (g 1)), (3, .int x70_3), (4, .int y150_4), (6, .int r141), (7, .int y150_7)] → W p l e ({ frames := 48, cells := 0, slots := 0, locals := 1171 } : Room) s m args below meth c H locs 0 0 Q (F0 m 150 ls []) := by
                      intro n150
                      induction n150 with
                      | zero => intro y150_4 y150_7 H locs ls hr; exact nomatch (show none = some (r, c_g1, c_g23, c_g27, c_g30, c_g34, c_g36, c_g39, c_g51, c_g70, c_F22, c_F24, c_F25, c_F26, c_F28, c_F29, c_F31, c_F32, c_F33, c_F37, c_F38, c_F40, c_F41, c_F52, c_F53, c_F54, c_F67, c_F68, c_F69) from hr)
                      | succ n150 ih150 =>
                        intro y150_4 y150_7 H locs ls hr hP hD hS hl
                        replace hr : B_mixed_150 F r141 k185 (L_mixed_150 F r141 k185 n150) y150_4 y150_7 = some (r, c_g1, c_g23, c_g27, c_g30, c_g34, c_g36, c_g39, c_g51, c_g70, c_F22, c_F24, c_F25, c_F26, c_F28, c_F29, c_F31, c_F32, c_F33, c_F37, c_F38, c_F40, c_F41, c_F52, c_F53, c_F54, c_F67, c_F68, c_F69) := hr
                        unfold B_mixed_150 at hr
                        refine lv_iload hx hb dX12_mixed_150 (lv_at hl 6 rfl) ?_
                        refine lv_iload hx hb dX12_mixed_152 (lv_at hl 5 rfl) ?_
                        refine lv_icmp_ge (tgt := 185) hx hb dX12_mixed_154 (by decide) (fun c154 => ?_) (fun c154 => ?_)
                        · replace hr := iteT c154 hr
                          exact Jk185 y150_4 H _ ls hr hP hD hS (lv_sub hl [0, 1, 2, 3, 4, 5] rfl)
                        · replace hr := iteF c154 hr
                          refine lv_iload hx hb dX12_mixed_157 (lv_at hl 4 rfl) ?_
                          refine lv_aload_n hx hb dX12_mixed_159 rfl (lv_at hl 0 rfl) ?_
                          refine va_get (D := (dC, dI)) (ci := 12) (v := .ref (q 0)) (C := RX12) (T := TX12) (N := 71) hx hb hts inX12 hown hK hP 0 rfl rfl 0 (by decide) (hts (.fieldLink RX12 7 "SpellTurnerModel" "tape" "[B") im_34) (fun _ h9 => h9) rfl dX12_mixed_160 ?_
                          refine lv_iload hx hb dX12_mixed_163 (lv_at hl 6 rfl) ?_
                          replace hr := iteS hr
                          obtain ⟨hi165, hr⟩ := hr
                          refine va_bald (f := (F 0)) hx hb hK hP 1 0 rfl rfl (inbV hi165) dX12_mixed_165 ?_
                          refine lv_bipush (v := 10) hx hb dX12_mixed_166 (by decide +kernel) ?_
                          replace hr := jnS hr
                          obtain ⟨j176, hj176, hr⟩ := hr
                          have Jj176 : ∀ (t176_0 : Int32) (H : Heap) (locs : List Loc) (ls : Array Slot), j176 t176_0 = some (r, c_g1, c_g23, c_g27, c_g30, c_g34, c_g36, c_g39, c_g51, c_g70, c_F22, c_F24, c_F25, c_F26, c_F28, c_F29, c_F31, c_F32, c_F33, c_F37, c_F38, c_F40, c_F41, c_F52, c_F53, c_F54, c_F67, c_F68, c_F69) → va_P (dC, dI) vwCl (mW h0 kB kI kZ q (upd (upd (upd (upd (upd (upd (upd (upd g 1 0) 23 c79_g23) 27 c79_g27) 30 c79_g30) 34 c79_g34) 36 c79_g36) 39 c79_g39) 51 c79_g51) (upF (upF (upF (upF (upF (upF (upF (upF (upF (upF (upF (upF (upF (upF (upF (upF (upF F 22 c79_F22) 24 c79_F24) 25 c79_F25) 26 c79_F26) 28 c79_F28) 29 c79_F29) 31 c79_F31) 32 c79_F32) 33 c79_F33) 37 c79_F37) 38 c79_F38) 40 c79_F40) 41 c79_F41) 52 c79_F52) 53 c79_F53) 54 c79_F54) 67 d113_F67)) H → va_D A (mW h0 kB kI kZ q (upd (upd (upd (upd (upd (upd (upd (upd g 1 0) 23 c79_g23) 27 c79_g27) 30 c79_g30) 34 c79_g34) 36 c79_g36) 39 c79_g39) 51 c79_g51) (upF (upF (upF (upF (upF (upF (upF (upF (upF (upF (upF (upF (upF (upF (upF (upF (upF F 22 c79_F22) 24 c79_F24) 25 c79_F25) 26 c79_F26) 28 c79_F28) 29 c79_F29) 31 c79_F31) 32 c79_F32) 33 c79_F33) 37 c79_F37) 38 c79_F38) 40 c79_F40) 41 c79_F41) 52 c79_F52) 53 c79_F53) 54 c79_F54) 67 d113_F67)) → va_S A s.heap H locs → lv_has ls 11 [(0, .ref h0), (1, .int p0), (2, .int (g 1)), (3, .int x70_3), (6, .int r141), (7, .int y150_7)] → W p l e ({ frames := 48, cells := 0, slots := 0, locals := 1171 } : Room) s m args below meth c H locs 0 0 Q (F0 m 176 ls [.int t176_0, .int y150_4]) := by
                            intro t176_0 H locs ls hr hP hD hS hl
                            rw [hj176] at hr
                            refine lv_iadd hx hb dX12_mixed_176 ?_
                            refine lv_topi (fun x177 ex177 => ?_)
                            replace hr := vlS hr x177 ex177
                            clear ex177
                            refine lv_istore (lv' := [(4, .int x177), (0, .ref h0), (1, .int p0), (2, .int (g 1)), (3, .int x70_3), (6, .int r141), (7, .int y150_7)]) hx hb dX12_mixed_177 hl (by decide) rfl (fun ls hl => ?_)
                            refine lv_iinc (v := (y150_7 + 1)) (lv' := [(7, .int (y150_7 + 1)), (4, .int x177), (0, .ref h0), (1, .int p0), (2, .int (g 1)), (3, .int x70_3), (6, .int r141)]) hx hb dX12_mixed_179 hl (k := 6) rfl rfl (by decide) rfl (fun ls hl => ?_)
                            refine lv_goto (tgt := 150) hx hb dX12_mixed_182 (by decide) ?_
                            exact ih150 x177 (y150_7 + 1) H _ ls hr hP hD hS (lv_sub hl [2, 3, 4, 5, 1, 6, 0] rfl)
                          refine lv_icmp_ne (tgt := 175) hx hb dX12_mixed_168 (by decide) (fun c168 => ?_) (fun c168 => ?_)
                          · replace hr := iteF c168 hr
                            refine lv_iconst (v := 0) hx hb dX12_mixed_175 (by decide +kernel) ?_
                            exact Jj176 0 H _ ls hr hP hD hS (lv_sub hl [0, 1, 2, 3, 5, 6] rfl)
                          · replace hr := iteT c168 hr
                            refine lv_iconst (v := 1) hx hb dX12_mixed_171 (by decide +kernel) ?_
                            refine lv_goto (tgt := 176) hx hb dX12_mixed_172 (by decide) ?_
                            exact Jj176 1 H _ ls hr hP hD hS (lv_sub hl [0, 1, 2, 3, 5, 6] rfl)
                    exact lp150 NN y113_4 y113_5 H _ ls hr hP hD hS (lv_sub hl [2, 3, 4, 5, 6, 1, 0] rfl)
            exact lp113 NN 0 0 c107_F67 H _ ls hr hP hD hS (lv_sub hl [2, 3, 4, 5, 1, 0] rfl)
          have lp85 : ∀ (n85 : Nat) (y85_4 : Int32) (d85_F67 : (Nat → Int32)) (H : Heap) (locs : List Loc) (ls : Array Slot), L_mixed_85 k107 n85 y85_4 d85_F67 = some (r, c_g1, c_g23, c_g27, c_g30, c_g34, c_g36, c_g39, c_g51, c_g70, c_F22, c_F24, c_F25, c_F26, c_F28, c_F29, c_F31, c_F32, c_F33, c_F37, c_F38, c_F40, c_F41, c_F52, c_F53, c_F54, c_F67, c_F68, c_F69) → va_P (dC, dI) vwCl (mW h0 kB kI kZ q (upd (upd (upd (upd (upd (upd (upd (upd g 1 0) 23 c79_g23) 27 c79_g27) 30 c79_g30) 34 c79_g34) 36 c79_g36) 39 c79_g39) 51 c79_g51) (upF (upF (upF (upF (upF (upF (upF (upF (upF (upF (upF (upF (upF (upF (upF (upF (upF F 22 c79_F22) 24 c79_F24) 25 c79_F25) 26 c79_F26) 28 c79_F28) 29 c79_F29) 31 c79_F31) 32 c79_F32) 33 c79_F33) 37 c79_F37) 38 c79_F38) 40 c79_F40) 41 c79_F41) 52 c79_F52) 53 c79_F53) 54 c79_F54) 67 d85_F67)) H → va_D A (mW h0 kB kI kZ q (upd (upd (upd (upd (upd (upd (upd (upd g 1 0) 23 c79_g23) 27 c79_g27) 30 c79_g30) 34 c79_g34) 36 c79_g36) 39 c79_g39) 51 c79_g51) (upF (upF (upF (upF (upF (upF (upF (upF (upF (upF (upF (upF (upF (upF (upF (upF (upF F 22 c79_F22) 24 c79_F24) 25 c79_F25) 26 c79_F26) 28 c79_F28) 29 c79_F29) 31 c79_F31) 32 c79_F32) 33 c79_F33) 37 c79_F37) 38 c79_F38) 40 c79_F40) 41 c79_F41) 52 c79_F52) 53 c79_F53) 54 c79_F54) 67 d85_F67)) → va_S A s.heap H locs → lv_has ls 11 [(0, .ref h0), (1, .int p0), (2, .int (g 1)), (3, .int x70_3), (4, .int y85_4)] → W p l e ({ frames := 48, cells := 0, slots := 0, locals := 1171 } : Room) s m args below meth c H locs 0 0 Q (F0 m 85 ls []) := by
            intro n85
            induction n85 with
            | zero => intro y85_4 d85_F67 H locs ls hr; exact nomatch (show none = some (r, c_g1, c_g23, c_g27, c_g30, c_g34, c_g36, c_g39, c_g51, c_g70, c_F22, c_F24, c_F25, c_F26, c_F28, c_F29, c_F31, c_F32, c_F33, c_F37, c_F38, c_F40, c_F41, c_F52, c_F53, c_F54, c_F67, c_F68, c_F69) from hr)
            | succ n85 ih85 =>
              intro y85_4 d85_F67 H locs ls hr hP hD hS hl
              replace hr : B_mixed_85 k107 (L_mixed_85 k107 n85) y85_4 d85_F67 = some (r, c_g1, c_g23, c_g27, c_g30, c_g34, c_g36, c_g39, c_g51, c_g70, c_F22, c_F24, c_F25, c_F26, c_F28, c_F29, c_F31, c_F32, c_F33, c_F37, c_F38, c_F40, c_F41, c_F52, c_F53, c_F54, c_F67, c_F68, c_F69) := hr
              unfold B_mixed_85 at hr
              refine lv_iload hx hb dX12_mixed_85 (lv_at hl 4 rfl) ?_
              refine lv_sipush (v := 280) hx hb dX12_mixed_87 (by decide +kernel) ?_
              refine lv_icmp_ge (tgt := 107) hx hb dX12_mixed_90 (by decide) (fun c90 => ?_) (fun c90 => ?_)
              · replace hr := iteT c90 hr
                exact Jk107 d85_F67 H _ ls hr hP hD hS (lv_sub hl [0, 1, 2, 3] rfl)
              · replace hr := iteF c90 hr
                refine lv_aload_n hx hb dX12_mixed_93 rfl (lv_at hl 0 rfl) ?_
                refine va_get (D := (dC, dI)) (ci := 12) (v := .ref (q 67)) (C := RX12) (T := TX12) (N := 71) hx hb hts inX12 hown hK hP 0 rfl rfl 67 (by decide) (hts (.fieldLink RX12 143 "SpellTurnerModel" "cost" "[I") im_234) (fun _ h9 => h9) rfl dX12_mixed_94 ?_
                refine lv_iload hx hb dX12_mixed_97 (lv_at hl 4 rfl) ?_
                refine lv_iconst (v := 0) hx hb dX12_mixed_99 (by decide +kernel) ?_
                replace hr := iteS hr
                obtain ⟨hi100, hr⟩ := hr
                refine va_iast (f := d85_F67) hx hb hK hP hD hS 43 1 rfl rfl (inbV hi100) dX12_mixed_100 (fun H locs hP hD hS => ?_)
                obtain ⟨w100, ew100, hP, hD⟩ : ∃ w100 : Nat → Int32, w100 = (upd d85_F67 (Int32.toNatClampNeg y85_4) 0) ∧ va_P (dC, dI) vwCl (mW h0 kB kI kZ q (upd (upd (upd (upd (upd (upd (upd (upd g 1 0) 23 c79_g23) 27 c79_g27) 30 c79_g30) 34 c79_g34) 36 c79_g36) 39 c79_g39) 51 c79_g51) (upF (upF (upF (upF (upF (upF (upF (upF (upF (upF (upF (upF (upF (upF (upF (upF (upF F 22 c79_F22) 24 c79_F24) 25 c79_F25) 26 c79_F26) 28 c79_F28) 29 c79_F29) 31 c79_F31) 32 c79_F32) 33 c79_F33) 37 c79_F37) 38 c79_F38) 40 c79_F40) 41 c79_F41) 52 c79_F52) 53 c79_F53) 54 c79_F54) 67 w100)) H ∧ va_D A (mW h0 kB kI kZ q (upd (upd (upd (upd (upd (upd (upd (upd g 1 0) 23 c79_g23) 27 c79_g27) 30 c79_g30) 34 c79_g34) 36 c79_g36) 39 c79_g39) 51 c79_g51) (upF (upF (upF (upF (upF (upF (upF (upF (upF (upF (upF (upF (upF (upF (upF (upF (upF F 22 c79_F22) 24 c79_F24) 25 c79_F25) 26 c79_F26) 28 c79_F28) 29 c79_F29) 31 c79_F31) 32 c79_F32) 33 c79_F33) 37 c79_F37) 38 c79_F38) 40 c79_F40) 41 c79_F41) 52 c79_F52) 53 c79_F53) 54 c79_F54) 67 w100)) := ⟨(upd d85_F67 (Int32.toNatClampNeg y85_4) 0), rfl, by first | exact sP_F67 hP upF_same | exact sP_F67 hP rfl | exact hP, by first | exact sD_F67 hD upF_same | exact sD_F67 hD rfl | exact hD⟩
                replace hr := vlS hr w100 ew100
                clear ew100
                refine lv_iinc (v := (y85_4 + 1)) (lv' := [(4, .int (y85_4 + 1)), (0, .ref h0), (1, .int p0), (2, .int (g 1)), (3, .int x70_3)]) hx hb dX12_mixed_101 hl (k := 4) rfl rfl (by decide) rfl (fun ls hl => ?_)
                refine lv_goto (tgt := 85) hx hb dX12_mixed_104 (by decide) ?_
                exact ih85 (y85_4 + 1) w100 H _ ls hr hP hD hS (lv_sub hl [1, 2, 3, 4, 0] rfl)
          first | exact lp85 NN 0 (F 67) H _ ls hr (sP_eq (mW_cg (by repeat (first | with_reducible rfl | with_reducible refine upd_cg ?_ | refine Eq.trans ?_ (upd_id rfl))) (by repeat (first | with_reducible rfl | with_reducible refine upF_cg ?_ | refine Eq.trans ?_ (upF_id rfl)))) hP) (sD_eq (mW_cg (by repeat (first | with_reducible rfl | with_reducible refine upd_cg ?_ | refine Eq.trans ?_ (upd_id rfl))) (by repeat (first | with_reducible rfl | with_reducible refine upF_cg ?_ | refine Eq.trans ?_ (upF_id rfl)))) hD) hS (lv_sub hl [1, 2, 3, 4, 0] rfl) | exact lp85 NN 0 (F 67) H _ ls hr hP hD hS (lv_sub hl [1, 2, 3, 4, 0] rfl)
        · replace hr := iteF c73 hr
          refine lv_iconst (v := (-1)) hx hb dX12_mixed_76 (by decide +kernel) ?_
          first | exact K 77 ls _ _ _ _ _ _ _ _ _ _ _ _ _ _ _ _ _ _ _ _ _ _ _ _ _ _ _ _ _ H _ hr dX12_mixed_77 (sP_eq (mW_cg (by repeat (first | with_reducible rfl | with_reducible refine upd_cg ?_ | refine Eq.trans ?_ (upd_id rfl))) (by repeat (first | with_reducible rfl | with_reducible refine upF_cg ?_ | refine Eq.trans ?_ (upF_id rfl)))) hP) (sD_eq (mW_cg (by repeat (first | with_reducible rfl | with_reducible refine upd_cg ?_ | refine Eq.trans ?_ (upd_id rfl))) (by repeat (first | with_reducible rfl | with_reducible refine upF_cg ?_ | refine Eq.trans ?_ (upF_id rfl)))) hD) hS | exact K 77 ls _ _ _ _ _ _ _ _ _ _ _ _ _ _ _ _ _ _ _ _ _ _ _ _ _ _ _ _ _ H _ hr dX12_mixed_77 hP hD hS
      have lp38 : ∀ (n38 : Nat) (y38_3 : Int32) (y38_4 : Int32) (H : Heap) (locs : List Loc) (ls : Array Slot), L_mixed_38 g F k70 n38 y38_3 y38_4 = some (r, c_g1, c_g23, c_g27, c_g30, c_g34, c_g36, c_g39, c_g51, c_g70, c_F22, c_F24, c_F25, c_F26, c_F28, c_F29, c_F31, c_F32, c_F33, c_F37, c_F38, c_F40, c_F41, c_F52, c_F53, c_F54, c_F67, c_F68, c_F69) → va_P (dC, dI) vwCl (mW h0 kB kI kZ q (upd g 1 0) F) H → va_D A (mW h0 kB kI kZ q (upd g 1 0) F) → va_S A s.heap H locs → lv_has ls 11 [(0, .ref h0), (1, .int p0), (2, .int (g 1)), (3, .int y38_3), (4, .int y38_4)] → W p l e ({ frames := 48, cells := 0, slots := 0, locals := 1171 } : Room) s m args below meth c H locs 0 0 Q (F0 m 38 ls []) := by
        intro n38
        induction n38 with
        | zero => intro y38_3 y38_4 H locs ls hr; exact nomatch (show none = some (r, c_g1, c_g23, c_g27, c_g30, c_g34, c_g36, c_g39, c_g51, c_g70, c_F22, c_F24, c_F25, c_F26, c_F28, c_F29, c_F31, c_F32, c_F33, c_F37, c_F38, c_F40, c_F41, c_F52, c_F53, c_F54, c_F67, c_F68, c_F69) from hr)
        | succ n38 ih38 =>
          intro y38_3 y38_4 H locs ls hr hP hD hS hl
          replace hr : B_mixed_38 g F k70 (L_mixed_38 g F k70 n38) y38_3 y38_4 = some (r, c_g1, c_g23, c_g27, c_g30, c_g34, c_g36, c_g39, c_g51, c_g70, c_F22, c_F24, c_F25, c_F26, c_F28, c_F29, c_F31, c_F32, c_F33, c_F37, c_F38, c_F40, c_F41, c_F52, c_F53, c_F54, c_F67, c_F68, c_F69) := hr
          unfold B_mixed_38 at hr
          refine lv_iload hx hb dX12_mixed_38 (lv_at hl 4 rfl) ?_
          refine lv_iload_n hx hb dX12_mixed_40 rfl (lv_at hl 2 rfl) ?_
          refine lv_icmp_ge (tgt := 70) hx hb dX12_mixed_41 (by decide) (fun c41 => ?_) (fun c41 => ?_)
          · replace hr := iteT c41 hr
            exact Jk70 y38_3 H _ ls hr hP hD hS (lv_sub hl [0, 1, 2, 3] rfl)
          · replace hr := iteF c41 hr
            refine lv_iload_n hx hb dX12_mixed_44 rfl (lv_at hl 3 rfl) ?_
            refine lv_aload_n hx hb dX12_mixed_45 rfl (lv_at hl 0 rfl) ?_
            refine va_get (D := (dC, dI)) (ci := 12) (v := .ref (q 0)) (C := RX12) (T := TX12) (N := 71) hx hb hts inX12 hown hK hP 0 rfl rfl 0 (by decide) (hts (.fieldLink RX12 7 "SpellTurnerModel" "tape" "[B") im_34) (fun _ h9 => h9) rfl dX12_mixed_46 ?_
            refine lv_iload hx hb dX12_mixed_49 (lv_at hl 4 rfl) ?_
            replace hr := iteS hr
            obtain ⟨hi51, hr⟩ := hr
            refine va_bald (f := (F 0)) hx hb hK hP 1 0 rfl rfl (inbV hi51) dX12_mixed_51 ?_
            refine lv_bipush (v := 10) hx hb dX12_mixed_52 (by decide +kernel) ?_
            replace hr := jnS hr
            obtain ⟨j62, hj62, hr⟩ := hr
            have Jj62 : ∀ (t62_0 : Int32) (H : Heap) (locs : List Loc) (ls : Array Slot), j62 t62_0 = some (r, c_g1, c_g23, c_g27, c_g30, c_g34, c_g36, c_g39, c_g51, c_g70, c_F22, c_F24, c_F25, c_F26, c_F28, c_F29, c_F31, c_F32, c_F33, c_F37, c_F38, c_F40, c_F41, c_F52, c_F53, c_F54, c_F67, c_F68, c_F69) → va_P (dC, dI) vwCl (mW h0 kB kI kZ q (upd g 1 0) F) H → va_D A (mW h0 kB kI kZ q (upd g 1 0) F) → va_S A s.heap H locs → lv_has ls 11 [(0, .ref h0), (1, .int p0), (2, .int (g 1)), (4, .int y38_4)] → W p l e ({ frames := 48, cells := 0, slots := 0, locals := 1171 } : Room) s m args below meth c H locs 0 0 Q (F0 m 62 ls [.int t62_0, .int y38_3]) := by
              intro t62_0 H locs ls hr hP hD hS hl
              rw [hj62] at hr
              refine lv_iadd hx hb dX12_mixed_62 ?_
              refine lv_topi (fun x63 ex63 => ?_)
              replace hr := vlS hr x63 ex63
              clear ex63
              refine lv_istore_n (lv' := [(3, .int x63), (0, .ref h0), (1, .int p0), (2, .int (g 1)), (4, .int y38_4)]) hx hb dX12_mixed_63 rfl hl (by decide) rfl (fun ls hl => ?_)
              refine lv_iinc (v := (y38_4 + 1)) (lv' := [(4, .int (y38_4 + 1)), (3, .int x63), (0, .ref h0), (1, .int p0), (2, .int (g 1))]) hx hb dX12_mixed_64 hl (k := 4) rfl rfl (by decide) rfl (fun ls hl => ?_)
              refine lv_goto (tgt := 38) hx hb dX12_mixed_67 (by decide) ?_
              exact ih38 x63 (y38_4 + 1) H _ ls hr hP hD hS (lv_sub hl [2, 3, 4, 1, 0] rfl)
            refine lv_icmp_ne (tgt := 61) hx hb dX12_mixed_54 (by decide) (fun c54 => ?_) (fun c54 => ?_)
            · replace hr := iteF c54 hr
              refine lv_iconst (v := 0) hx hb dX12_mixed_61 (by decide +kernel) ?_
              exact Jj62 0 H _ ls hr hP hD hS (lv_sub hl [0, 1, 2, 4] rfl)
            · replace hr := iteT c54 hr
              refine lv_iconst (v := 1) hx hb dX12_mixed_57 (by decide +kernel) ?_
              refine lv_goto (tgt := 62) hx hb dX12_mixed_58 (by decide) ?_
              exact Jj62 1 H _ ls hr hP hD hS (lv_sub hl [0, 1, 2, 4] rfl)
      exact lp38 NN 1 0 H _ ls hr hP hD hS (lv_sub hl [3, 4, 2, 1, 0] rfl)
    · replace hr := iteF c28 hr
      refine lv_iconst (v := (-1)) hx hb dX12_mixed_31 (by decide +kernel) ?_
      first | exact K 32 ls _ _ _ _ _ _ _ _ _ _ _ _ _ _ _ _ _ _ _ _ _ _ _ _ _ _ _ _ _ H _ hr dX12_mixed_32 (sP_eq (mW_cg (by repeat (first | with_reducible rfl | with_reducible refine upd_cg ?_ | refine Eq.trans ?_ (upd_id rfl))) (by repeat (first | with_reducible rfl | with_reducible refine upF_cg ?_ | refine Eq.trans ?_ (upF_id rfl)))) hP) (sD_eq (mW_cg (by repeat (first | with_reducible rfl | with_reducible refine upd_cg ?_ | refine Eq.trans ?_ (upd_id rfl))) (by repeat (first | with_reducible rfl | with_reducible refine upF_cg ?_ | refine Eq.trans ?_ (upF_id rfl)))) hD) hS | exact K 32 ls _ _ _ _ _ _ _ _ _ _ _ _ _ _ _ _ _ _ _ _ _ _ _ _ _ _ _ _ _ H _ hr dX12_mixed_32 hP hD hS
  · replace hr := iteT c17 hr
    refine lv_bipush (v := (-2)) hx hb dX12_mixed_20 (by decide +kernel) ?_
    first | exact K 22 ls _ _ _ _ _ _ _ _ _ _ _ _ _ _ _ _ _ _ _ _ _ _ _ _ _ _ _ _ _ H _ hr dX12_mixed_22 (sP_eq (mW_cg (by repeat (first | with_reducible rfl | with_reducible refine upd_cg ?_ | refine Eq.trans ?_ (upd_id rfl))) (by repeat (first | with_reducible rfl | with_reducible refine upF_cg ?_ | refine Eq.trans ?_ (upF_id rfl)))) hP) (sD_eq (mW_cg (by repeat (first | with_reducible rfl | with_reducible refine upd_cg ?_ | refine Eq.trans ?_ (upd_id rfl))) (by repeat (first | with_reducible rfl | with_reducible refine upF_cg ?_ | refine Eq.trans ?_ (upF_id rfl)))) hD) hS | exact K 22 ls _ _ _ _ _ _ _ _ _ _ _ _ _ _ _ _ _ _ _ _ _ _ _ _ _ _ _ _ _ H _ hr dX12_mixed_22 hP hD hS
set_option maxHeartbeats 4000000 in
set_option maxRecDepth 100000 in
theorem m_mixed (l : Launch) (dC : Nat → ClassId) (dI : Nat → Nat → Nat) (sz : Nat) (h0 : Nat) (kB kI kZ : ClassId) (q : Nat → Nat) (g : Nat → Int32) (F : Nat → Nat → Int32) (p0 : Int32) (r : Int32) (c_g1 : Int32) (c_g23 : Int32) (c_g27 : Int32) (c_g30 : Int32) (c_g34 : Int32) (c_g36 : Int32) (c_g39 : Int32) (c_g51 : Int32) (c_g70 : Int32) (c_F22 : (Nat → Int32)) (c_F24 : (Nat → Int32)) (c_F25 : (Nat → Int32)) (c_F26 : (Nat → Int32)) (c_F28 : (Nat → Int32)) (c_F29 : (Nat → Int32)) (c_F31 : (Nat → Int32)) (c_F32 : (Nat → Int32)) (c_F33 : (Nat → Int32)) (c_F37 : (Nat → Int32)) (c_F38 : (Nat → Int32)) (c_F40 : (Nat → Int32)) (c_F41 : (Nat → Int32)) (c_F52 : (Nat → Int32)) (c_F53 : (Nat → Int32)) (c_F54 : (Nat → Int32)) (c_F67 : (Nat → Int32)) (c_F68 : (Nat → Int32)) (c_F69 : (Nat → Int32)) (hr : f_mixed g F p0 = some (r, c_g1, c_g23, c_g27, c_g30, c_g34, c_g36, c_g39, c_g51, c_g70, c_F22, c_F24, c_F25, c_F26, c_F28, c_F29, c_F31, c_F32, c_F33, c_F37, c_F38, c_F40, c_F41, c_F52, c_F53, c_F54, c_F67, c_F68, c_F69)) : Met l yX12_mixed vmX12_mixed ({ frames := 48, cells := 0, slots := 0, locals := 1171 } : Room) (va_Pc [.ref h0, .int p0] (fun U => U.heap.size = sz ∧ va_P (dC, dI) vwCl (mW h0 kB kI kZ q g F) U.heap ∧ va_K (dC, dI) vwCl (mT kB kI kZ) U ∧ va_D (fun _ => True) (mW h0 kB kI kZ q g F))) (va_Qi (fun (rz : Int32) (_ : Unit) => rz = r) (fun _ t => va_P (dC, dI) vwCl (mW h0 kB kI kZ q (upd (upd (upd (upd (upd (upd (upd (upd (upd g 1 c_g1) 23 c_g23) 27 c_g27) 30 c_g30) 34 c_g34) 36 c_g36) 39 c_g39) 51 c_g51) 70 c_g70) (upF (upF (upF (upF (upF (upF (upF (upF (upF (upF (upF (upF (upF (upF (upF (upF (upF (upF (upF F 22 c_F22) 24 c_F24) 25 c_F25) 26 c_F26) 28 c_F28) 29 c_F29) 31 c_F31) 32 c_F32) 33 c_F33) 37 c_F37) 38 c_F38) 40 c_F40) 41 c_F41) 52 c_F52) 53 c_F53) 54 c_F54) 67 c_F67) 68 c_F68) 69 c_F69)) t.heap ∧ va_K (dC, dI) vwCl (mT kB kI kZ) t ∧ va_D (va_A (mW h0 kB kI kZ q g F) sz) (mW h0 kB kI kZ q (upd (upd (upd (upd (upd (upd (upd (upd (upd g 1 c_g1) 23 c_g23) 27 c_g27) 30 c_g30) 34 c_g34) 36 c_g36) 39 c_g39) 51 c_g51) 70 c_g70) (upF (upF (upF (upF (upF (upF (upF (upF (upF (upF (upF (upF (upF (upF (upF (upF (upF (upF (upF F 22 c_F22) 24 c_F24) 25 c_F25) 26 c_F26) 28 c_F28) 29 c_F29) 31 c_F31) 32 c_F32) 33 c_F33) 37 c_F37) 38 c_F38) 40 c_F40) 41 c_F41) 52 c_F52) 53 c_F53) 54 c_F54) 67 c_F67) 68 c_F68) 69 c_F69))) (va_A (mW h0 kB kI kZ q g F) sz)) 0 0 (va_A (mW h0 kB kI kZ q g F) sz) := by
  refine Met.ofW (cc := cX12_mixed) (maxL := 11) (ret := (some .int)) (by decide) rfl ?_
  intro p e s m args below meth c s₁ B hml hv
  obtain ⟨rfl, hsz, hP, hK, hD0⟩ := hv
  have hx := B.exec
  have hb := B.bytes
  have hrt := B.returns
  have hts := atoms_spec (ws := vmX12_mixed) B.pre
  have hown : s.vm.findClass RX12 = some m.cls := findClass_of_methodNamed B.named
  subst hsz
  have hD := hD0.self (sz := s.heap.size)
  generalize hAe : va_A (mW h0 kB kI kZ q g F) s.heap.size = A at hD ⊢
  have hA : ∀ q : Nat, s.heap.size ≤ q → A q := fun q h => by rw [← hAe]; exact Or.inr h
  have hS : va_S A s.heap s.heap [] := va_S.rf
  have hl := lv_entry ([.ref h0, .int p0]) (n := 11) (Nat.le_of_ble_eq_true rfl)
  rw [lg_entry_eq]
  generalize (lg_sl ([.ref h0, .int p0]) ++ List.replicate (11 - (lg_sl ([.ref h0, .int p0])).length) Slot.unset).toArray = ls at hl ⊢
  exact bm_mixed p0 r c_g1 c_g23 c_g27 c_g30 c_g34 c_g36 c_g39 c_g51 c_g70 c_F22 c_F24 c_F25 c_F26 c_F28 c_F29 c_F31 c_F32 c_F33 c_F37 c_F38 c_F40 c_F41 c_F52 c_F53 c_F54 c_F67 c_F68 c_F69 hr hx hb hml hown hts hA hK hP hD hS hl (fun pc ls rz c_g1z c_g23z c_g27z c_g30z c_g34z c_g36z c_g39z c_g51z c_g70z c_F22z c_F24z c_F25z c_F26z c_F28z c_F29z c_F31z c_F32z c_F33z c_F37z c_F38z c_F40z c_F41z c_F52z c_F53z c_F54z c_F67z c_F68z c_F69z H locs he hd hP hD hS => by cases he; exact W.iret (v := r) hx hb hrt (fun t ht hW => ⟨⟨r, (), rfl, rfl, by rw [ht]; exact hP, va_K.moved hW.alike hK, hD⟩, hS.F ht⟩) hS.2.2 hd)
