theorem gd_X12_part_0 : decode cX12_part 0 = .ok (.aload_n 0, 1) ∧ decode cX12_part 1 = .ok (.getfield 241, 3) ∧ decode cX12_part 4 = .ok (.bipush 30, 2) ∧ decode cX12_part 6 = .ok (.if_icmp .ne 4, 3) ∧ decode cX12_part 9 = .ok (.return_, 1) ∧ decode cX12_part 10 = .ok (.iload_n 2, 1) ∧ decode cX12_part 11 = .ok (.aload_n 0, 1) ∧ decode cX12_part 12 = .ok (.getfield 244, 3) ∧ decode cX12_part 15 = .ok (.if_icmp .ne 61, 3) ∧ decode cX12_part 18 = .ok (.iconst 0, 1) := by decide +kernel
theorem dX12_part_0 : decode cX12_part 0 = .ok (.aload_n 0, 1) := gd_X12_part_0.1
theorem dX12_part_1 : decode cX12_part 1 = .ok (.getfield 241, 3) := gd_X12_part_0.2.1
theorem dX12_part_4 : decode cX12_part 4 = .ok (.bipush 30, 2) := gd_X12_part_0.2.2.1
theorem dX12_part_6 : decode cX12_part 6 = .ok (.if_icmp .ne 4, 3) := gd_X12_part_0.2.2.2.1
theorem dX12_part_9 : decode cX12_part 9 = .ok (.return_, 1) := gd_X12_part_0.2.2.2.2.1
theorem dX12_part_10 : decode cX12_part 10 = .ok (.iload_n 2, 1) := gd_X12_part_0.2.2.2.2.2.1
theorem dX12_part_11 : decode cX12_part 11 = .ok (.aload_n 0, 1) := gd_X12_part_0.2.2.2.2.2.2.1
theorem dX12_part_12 : decode cX12_part 12 = .ok (.getfield 244, 3) := gd_X12_part_0.2.2.2.2.2.2.2.1
theorem dX12_part_15 : decode cX12_part 15 = .ok (.if_icmp .ne 61, 3) := gd_X12_part_0.2.2.2.2.2.2.2.2.1
theorem dX12_part_18 : decode cX12_part 18 = .ok (.iconst 0, 1) := gd_X12_part_0.2.2.2.2.2.2.2.2.2
theorem gd_X12_part_19 : decode cX12_part 19 = .ok (.istore 4, 2) ∧ decode cX12_part 21 = .ok (.iload 4, 2) ∧ decode cX12_part 23 = .ok (.iload_n 3, 1) ∧ decode cX12_part 24 = .ok (.if_icmp .ge 31, 3) ∧ decode cX12_part 27 = .ok (.aload_n 0, 1) ∧ decode cX12_part 28 = .ok (.getfield 61, 3) ∧ decode cX12_part 31 = .ok (.bipush 24, 2) ∧ decode cX12_part 33 = .ok (.aload_n 0, 1) ∧ decode cX12_part 34 = .ok (.getfield 241, 3) ∧ decode cX12_part 37 = .ok (.imul, 1) := by decide +kernel
theorem dX12_part_19 : decode cX12_part 19 = .ok (.istore 4, 2) := gd_X12_part_19.1
theorem dX12_part_21 : decode cX12_part 21 = .ok (.iload 4, 2) := gd_X12_part_19.2.1
theorem dX12_part_23 : decode cX12_part 23 = .ok (.iload_n 3, 1) := gd_X12_part_19.2.2.1
theorem dX12_part_24 : decode cX12_part 24 = .ok (.if_icmp .ge 31, 3) := gd_X12_part_19.2.2.2.1
theorem dX12_part_27 : decode cX12_part 27 = .ok (.aload_n 0, 1) := gd_X12_part_19.2.2.2.2.1
theorem dX12_part_28 : decode cX12_part 28 = .ok (.getfield 61, 3) := gd_X12_part_19.2.2.2.2.2.1
theorem dX12_part_31 : decode cX12_part 31 = .ok (.bipush 24, 2) := gd_X12_part_19.2.2.2.2.2.2.1
theorem dX12_part_33 : decode cX12_part 33 = .ok (.aload_n 0, 1) := gd_X12_part_19.2.2.2.2.2.2.2.1
theorem dX12_part_34 : decode cX12_part 34 = .ok (.getfield 241, 3) := gd_X12_part_19.2.2.2.2.2.2.2.2.1
theorem dX12_part_37 : decode cX12_part 37 = .ok (.imul, 1) := gd_X12_part_19.2.2.2.2.2.2.2.2.2
theorem gd_X12_part_38 : decode cX12_part 38 = .ok (.iload 4, 2) ∧ decode cX12_part 40 = .ok (.iadd, 1) ∧ decode cX12_part 41 = .ok (.aload_n 0, 1) ∧ decode cX12_part 42 = .ok (.getfield 58, 3) ∧ decode cX12_part 45 = .ok (.iload 4, 2) ∧ decode cX12_part 47 = .ok (.iaload, 1) ∧ decode cX12_part 48 = .ok (.iastore, 1) ∧ decode cX12_part 49 = .ok (.iinc 4 1, 3) ∧ decode cX12_part 52 = .ok (.goto (-31), 3) ∧ decode cX12_part 55 = .ok (.aload_n 0, 1) := by decide +kernel
theorem dX12_part_38 : decode cX12_part 38 = .ok (.iload 4, 2) := gd_X12_part_38.1
theorem dX12_part_40 : decode cX12_part 40 = .ok (.iadd, 1) := gd_X12_part_38.2.1
theorem dX12_part_41 : decode cX12_part 41 = .ok (.aload_n 0, 1) := gd_X12_part_38.2.2.1
theorem dX12_part_42 : decode cX12_part 42 = .ok (.getfield 58, 3) := gd_X12_part_38.2.2.2.1
theorem dX12_part_45 : decode cX12_part 45 = .ok (.iload 4, 2) := gd_X12_part_38.2.2.2.2.1
theorem dX12_part_47 : decode cX12_part 47 = .ok (.iaload, 1) := gd_X12_part_38.2.2.2.2.2.1
theorem dX12_part_48 : decode cX12_part 48 = .ok (.iastore, 1) := gd_X12_part_38.2.2.2.2.2.2.1
theorem dX12_part_49 : decode cX12_part 49 = .ok (.iinc 4 1, 3) := gd_X12_part_38.2.2.2.2.2.2.2.1
theorem dX12_part_52 : decode cX12_part 52 = .ok (.goto (-31), 3) := gd_X12_part_38.2.2.2.2.2.2.2.2.1
theorem dX12_part_55 : decode cX12_part 55 = .ok (.aload_n 0, 1) := gd_X12_part_38.2.2.2.2.2.2.2.2.2
theorem gd_X12_part_56 : decode cX12_part 56 = .ok (.getfield 64, 3) ∧ decode cX12_part 59 = .ok (.aload_n 0, 1) ∧ decode cX12_part 60 = .ok (.getfield 241, 3) ∧ decode cX12_part 63 = .ok (.iload_n 3, 1) ∧ decode cX12_part 64 = .ok (.iastore, 1) ∧ decode cX12_part 65 = .ok (.aload_n 0, 1) ∧ decode cX12_part 66 = .ok (.dup, 1) ∧ decode cX12_part 67 = .ok (.getfield 241, 3) ∧ decode cX12_part 70 = .ok (.iconst 1, 1) ∧ decode cX12_part 71 = .ok (.iadd, 1) := by decide +kernel
theorem dX12_part_56 : decode cX12_part 56 = .ok (.getfield 64, 3) := gd_X12_part_56.1
theorem dX12_part_59 : decode cX12_part 59 = .ok (.aload_n 0, 1) := gd_X12_part_56.2.1
theorem dX12_part_60 : decode cX12_part 60 = .ok (.getfield 241, 3) := gd_X12_part_56.2.2.1
theorem dX12_part_63 : decode cX12_part 63 = .ok (.iload_n 3, 1) := gd_X12_part_56.2.2.2.1
theorem dX12_part_64 : decode cX12_part 64 = .ok (.iastore, 1) := gd_X12_part_56.2.2.2.2.1
theorem dX12_part_65 : decode cX12_part 65 = .ok (.aload_n 0, 1) := gd_X12_part_56.2.2.2.2.2.1
theorem dX12_part_66 : decode cX12_part 66 = .ok (.dup, 1) := gd_X12_part_56.2.2.2.2.2.2.1
theorem dX12_part_67 : decode cX12_part 67 = .ok (.getfield 241, 3) := gd_X12_part_56.2.2.2.2.2.2.2.1
theorem dX12_part_70 : decode cX12_part 70 = .ok (.iconst 1, 1) := gd_X12_part_56.2.2.2.2.2.2.2.2.1
theorem dX12_part_71 : decode cX12_part 71 = .ok (.iadd, 1) := gd_X12_part_56.2.2.2.2.2.2.2.2.2
theorem gd_X12_part_72 : decode cX12_part 72 = .ok (.putfield 241, 3) ∧ decode cX12_part 75 = .ok (.return_, 1) ∧ decode cX12_part 76 = .ok (.iconst 1, 1) ∧ decode cX12_part 77 = .ok (.istore 4, 2) ∧ decode cX12_part 79 = .ok (.iload 4, 2) ∧ decode cX12_part 81 = .ok (.bipush 16, 2) ∧ decode cX12_part 83 = .ok (.if_icmp .gt 66, 3) ∧ decode cX12_part 86 = .ok (.iload_n 2, 1) ∧ decode cX12_part 87 = .ok (.iload 4, 2) ∧ decode cX12_part 89 = .ok (.iadd, 1) := by decide +kernel
theorem dX12_part_72 : decode cX12_part 72 = .ok (.putfield 241, 3) := gd_X12_part_72.1
theorem dX12_part_75 : decode cX12_part 75 = .ok (.return_, 1) := gd_X12_part_72.2.1
theorem dX12_part_76 : decode cX12_part 76 = .ok (.iconst 1, 1) := gd_X12_part_72.2.2.1
theorem dX12_part_77 : decode cX12_part 77 = .ok (.istore 4, 2) := gd_X12_part_72.2.2.2.1
theorem dX12_part_79 : decode cX12_part 79 = .ok (.iload 4, 2) := gd_X12_part_72.2.2.2.2.1
theorem dX12_part_81 : decode cX12_part 81 = .ok (.bipush 16, 2) := gd_X12_part_72.2.2.2.2.2.1
theorem dX12_part_83 : decode cX12_part 83 = .ok (.if_icmp .gt 66, 3) := gd_X12_part_72.2.2.2.2.2.2.1
theorem dX12_part_86 : decode cX12_part 86 = .ok (.iload_n 2, 1) := gd_X12_part_72.2.2.2.2.2.2.2.1
theorem dX12_part_87 : decode cX12_part 87 = .ok (.iload 4, 2) := gd_X12_part_72.2.2.2.2.2.2.2.2.1
theorem dX12_part_89 : decode cX12_part 89 = .ok (.iadd, 1) := gd_X12_part_72.2.2.2.2.2.2.2.2.2
theorem gd_X12_part_90 : decode cX12_part 90 = .ok (.aload_n 0, 1) ∧ decode cX12_part 91 = .ok (.getfield 244, 3) ∧ decode cX12_part 94 = .ok (.if_icmp .gt 55, 3) ∧ decode cX12_part 97 = .ok (.aload_n 0, 1) ∧ decode cX12_part 98 = .ok (.getfield 67, 3) ∧ decode cX12_part 101 = .ok (.iload_n 2, 1) ∧ decode cX12_part 102 = .ok (.iload 4, 2) ∧ decode cX12_part 104 = .ok (.iadd, 1) ∧ decode cX12_part 105 = .ok (.baload, 1) ∧ decode cX12_part 106 = .ok (.ifCond .eq 37, 3) := by decide +kernel
theorem dX12_part_90 : decode cX12_part 90 = .ok (.aload_n 0, 1) := gd_X12_part_90.1
theorem dX12_part_91 : decode cX12_part 91 = .ok (.getfield 244, 3) := gd_X12_part_90.2.1
theorem dX12_part_94 : decode cX12_part 94 = .ok (.if_icmp .gt 55, 3) := gd_X12_part_90.2.2.1
theorem dX12_part_97 : decode cX12_part 97 = .ok (.aload_n 0, 1) := gd_X12_part_90.2.2.2.1
theorem dX12_part_98 : decode cX12_part 98 = .ok (.getfield 67, 3) := gd_X12_part_90.2.2.2.2.1
theorem dX12_part_101 : decode cX12_part 101 = .ok (.iload_n 2, 1) := gd_X12_part_90.2.2.2.2.2.1
theorem dX12_part_102 : decode cX12_part 102 = .ok (.iload 4, 2) := gd_X12_part_90.2.2.2.2.2.2.1
theorem dX12_part_104 : decode cX12_part 104 = .ok (.iadd, 1) := gd_X12_part_90.2.2.2.2.2.2.2.1
theorem dX12_part_105 : decode cX12_part 105 = .ok (.baload, 1) := gd_X12_part_90.2.2.2.2.2.2.2.2.1
theorem dX12_part_106 : decode cX12_part 106 = .ok (.ifCond .eq 37, 3) := gd_X12_part_90.2.2.2.2.2.2.2.2.2
theorem gd_X12_part_109 : decode cX12_part 109 = .ok (.aload_n 0, 1) ∧ decode cX12_part 110 = .ok (.iload_n 1, 1) ∧ decode cX12_part 111 = .ok (.iload_n 2, 1) ∧ decode cX12_part 112 = .ok (.iload 4, 2) ∧ decode cX12_part 114 = .ok (.invokevirtual 247, 3) ∧ decode cX12_part 117 = .ok (.ifCond .ne 6, 3) ∧ decode cX12_part 120 = .ok (.goto 23, 3) ∧ decode cX12_part 123 = .ok (.aload_n 0, 1) ∧ decode cX12_part 124 = .ok (.getfield 58, 3) ∧ decode cX12_part 127 = .ok (.iload_n 3, 1) := by decide +kernel
theorem dX12_part_109 : decode cX12_part 109 = .ok (.aload_n 0, 1) := gd_X12_part_109.1
theorem dX12_part_110 : decode cX12_part 110 = .ok (.iload_n 1, 1) := gd_X12_part_109.2.1
theorem dX12_part_111 : decode cX12_part 111 = .ok (.iload_n 2, 1) := gd_X12_part_109.2.2.1
theorem dX12_part_112 : decode cX12_part 112 = .ok (.iload 4, 2) := gd_X12_part_109.2.2.2.1
theorem dX12_part_114 : decode cX12_part 114 = .ok (.invokevirtual 247, 3) := gd_X12_part_109.2.2.2.2.1
theorem dX12_part_117 : decode cX12_part 117 = .ok (.ifCond .ne 6, 3) := gd_X12_part_109.2.2.2.2.2.1
theorem dX12_part_120 : decode cX12_part 120 = .ok (.goto 23, 3) := gd_X12_part_109.2.2.2.2.2.2.1
theorem dX12_part_123 : decode cX12_part 123 = .ok (.aload_n 0, 1) := gd_X12_part_109.2.2.2.2.2.2.2.1
theorem dX12_part_124 : decode cX12_part 124 = .ok (.getfield 58, 3) := gd_X12_part_109.2.2.2.2.2.2.2.2.1
theorem dX12_part_127 : decode cX12_part 127 = .ok (.iload_n 3, 1) := gd_X12_part_109.2.2.2.2.2.2.2.2.2
theorem gd_X12_part_128 : decode cX12_part 128 = .ok (.iload 4, 2) ∧ decode cX12_part 130 = .ok (.iastore, 1) ∧ decode cX12_part 131 = .ok (.aload_n 0, 1) ∧ decode cX12_part 132 = .ok (.iload_n 1, 1) ∧ decode cX12_part 133 = .ok (.iload_n 2, 1) ∧ decode cX12_part 134 = .ok (.iload 4, 2) ∧ decode cX12_part 136 = .ok (.iadd, 1) ∧ decode cX12_part 137 = .ok (.iload_n 3, 1) ∧ decode cX12_part 138 = .ok (.iconst 1, 1) ∧ decode cX12_part 139 = .ok (.iadd, 1) := by decide +kernel
theorem dX12_part_128 : decode cX12_part 128 = .ok (.iload 4, 2) := gd_X12_part_128.1
theorem dX12_part_130 : decode cX12_part 130 = .ok (.iastore, 1) := gd_X12_part_128.2.1
theorem dX12_part_131 : decode cX12_part 131 = .ok (.aload_n 0, 1) := gd_X12_part_128.2.2.1
theorem dX12_part_132 : decode cX12_part 132 = .ok (.iload_n 1, 1) := gd_X12_part_128.2.2.2.1
theorem dX12_part_133 : decode cX12_part 133 = .ok (.iload_n 2, 1) := gd_X12_part_128.2.2.2.2.1
theorem dX12_part_134 : decode cX12_part 134 = .ok (.iload 4, 2) := gd_X12_part_128.2.2.2.2.2.1
theorem dX12_part_136 : decode cX12_part 136 = .ok (.iadd, 1) := gd_X12_part_128.2.2.2.2.2.2.1
theorem dX12_part_137 : decode cX12_part 137 = .ok (.iload_n 3, 1) := gd_X12_part_128.2.2.2.2.2.2.2.1
theorem dX12_part_138 : decode cX12_part 138 = .ok (.iconst 1, 1) := gd_X12_part_128.2.2.2.2.2.2.2.2.1
theorem dX12_part_139 : decode cX12_part 139 = .ok (.iadd, 1) := gd_X12_part_128.2.2.2.2.2.2.2.2.2
theorem gd_X12_part_140 : decode cX12_part 140 = .ok (.invokevirtual 250, 3) ∧ decode cX12_part 143 = .ok (.iinc 4 1, 3) ∧ decode cX12_part 146 = .ok (.goto (-67), 3) ∧ decode cX12_part 149 = .ok (.return_, 1) ∧ decode cX12_makeWays 0 = .ok (.aload_n 0, 1) ∧ decode cX12_makeWays 1 = .ok (.getfield 67, 3) ∧ decode cX12_makeWays 4 = .ok (.aload_n 0, 1) ∧ decode cX12_makeWays 5 = .ok (.getfield 244, 3) ∧ decode cX12_makeWays 8 = .ok (.iconst 1, 1) ∧ decode cX12_makeWays 9 = .ok (.bastore, 1) := by decide +kernel
theorem dX12_part_140 : decode cX12_part 140 = .ok (.invokevirtual 250, 3) := gd_X12_part_140.1
theorem dX12_part_143 : decode cX12_part 143 = .ok (.iinc 4 1, 3) := gd_X12_part_140.2.1
theorem dX12_part_146 : decode cX12_part 146 = .ok (.goto (-67), 3) := gd_X12_part_140.2.2.1
theorem dX12_part_149 : decode cX12_part 149 = .ok (.return_, 1) := gd_X12_part_140.2.2.2.1
theorem dX12_makeWays_0 : decode cX12_makeWays 0 = .ok (.aload_n 0, 1) := gd_X12_part_140.2.2.2.2.1
theorem dX12_makeWays_1 : decode cX12_makeWays 1 = .ok (.getfield 67, 3) := gd_X12_part_140.2.2.2.2.2.1
theorem dX12_makeWays_4 : decode cX12_makeWays 4 = .ok (.aload_n 0, 1) := gd_X12_part_140.2.2.2.2.2.2.1
theorem dX12_makeWays_5 : decode cX12_makeWays 5 = .ok (.getfield 244, 3) := gd_X12_part_140.2.2.2.2.2.2.2.1
theorem dX12_makeWays_8 : decode cX12_makeWays 8 = .ok (.iconst 1, 1) := gd_X12_part_140.2.2.2.2.2.2.2.2.1
theorem dX12_makeWays_9 : decode cX12_makeWays 9 = .ok (.bastore, 1) := gd_X12_part_140.2.2.2.2.2.2.2.2.2
theorem gd_X12_makeWays_10 : decode cX12_makeWays 10 = .ok (.aload_n 0, 1) ∧ decode cX12_makeWays 11 = .ok (.getfield 244, 3) ∧ decode cX12_makeWays 14 = .ok (.iconst 1, 1) ∧ decode cX12_makeWays 15 = .ok (.isub, 1) ∧ decode cX12_makeWays 16 = .ok (.istore_n 2, 1) ∧ decode cX12_makeWays 17 = .ok (.iload_n 2, 1) ∧ decode cX12_makeWays 18 = .ok (.ifCond .lt 81, 3) ∧ decode cX12_makeWays 21 = .ok (.aload_n 0, 1) ∧ decode cX12_makeWays 22 = .ok (.getfield 67, 3) ∧ decode cX12_makeWays 25 = .ok (.iload_n 2, 1) := by decide +kernel
theorem dX12_makeWays_10 : decode cX12_makeWays 10 = .ok (.aload_n 0, 1) := gd_X12_makeWays_10.1
theorem dX12_makeWays_11 : decode cX12_makeWays 11 = .ok (.getfield 244, 3) := gd_X12_makeWays_10.2.1
theorem dX12_makeWays_14 : decode cX12_makeWays 14 = .ok (.iconst 1, 1) := gd_X12_makeWays_10.2.2.1
theorem dX12_makeWays_15 : decode cX12_makeWays 15 = .ok (.isub, 1) := gd_X12_makeWays_10.2.2.2.1
theorem dX12_makeWays_16 : decode cX12_makeWays 16 = .ok (.istore_n 2, 1) := gd_X12_makeWays_10.2.2.2.2.1
theorem dX12_makeWays_17 : decode cX12_makeWays 17 = .ok (.iload_n 2, 1) := gd_X12_makeWays_10.2.2.2.2.2.1
theorem dX12_makeWays_18 : decode cX12_makeWays 18 = .ok (.ifCond .lt 81, 3) := gd_X12_makeWays_10.2.2.2.2.2.2.1
theorem dX12_makeWays_21 : decode cX12_makeWays 21 = .ok (.aload_n 0, 1) := gd_X12_makeWays_10.2.2.2.2.2.2.2.1
theorem dX12_makeWays_22 : decode cX12_makeWays 22 = .ok (.getfield 67, 3) := gd_X12_makeWays_10.2.2.2.2.2.2.2.2.1
theorem dX12_makeWays_25 : decode cX12_makeWays 25 = .ok (.iload_n 2, 1) := gd_X12_makeWays_10.2.2.2.2.2.2.2.2.2
theorem gd_X12_makeWays_26 : decode cX12_makeWays 26 = .ok (.iconst 0, 1) ∧ decode cX12_makeWays 27 = .ok (.bastore, 1) ∧ decode cX12_makeWays 28 = .ok (.iconst 1, 1) ∧ decode cX12_makeWays 29 = .ok (.istore_n 3, 1) ∧ decode cX12_makeWays 30 = .ok (.iload_n 3, 1) ∧ decode cX12_makeWays 31 = .ok (.bipush 16, 2) ∧ decode cX12_makeWays 33 = .ok (.if_icmp .gt 60, 3) ∧ decode cX12_makeWays 36 = .ok (.iload_n 2, 1) ∧ decode cX12_makeWays 37 = .ok (.iload_n 3, 1) ∧ decode cX12_makeWays 38 = .ok (.iadd, 1) := by decide +kernel
theorem dX12_makeWays_26 : decode cX12_makeWays 26 = .ok (.iconst 0, 1) := gd_X12_makeWays_26.1
theorem dX12_makeWays_27 : decode cX12_makeWays 27 = .ok (.bastore, 1) := gd_X12_makeWays_26.2.1
theorem dX12_makeWays_28 : decode cX12_makeWays 28 = .ok (.iconst 1, 1) := gd_X12_makeWays_26.2.2.1
theorem dX12_makeWays_29 : decode cX12_makeWays 29 = .ok (.istore_n 3, 1) := gd_X12_makeWays_26.2.2.2.1
theorem dX12_makeWays_30 : decode cX12_makeWays 30 = .ok (.iload_n 3, 1) := gd_X12_makeWays_26.2.2.2.2.1
theorem dX12_makeWays_31 : decode cX12_makeWays 31 = .ok (.bipush 16, 2) := gd_X12_makeWays_26.2.2.2.2.2.1
theorem dX12_makeWays_33 : decode cX12_makeWays 33 = .ok (.if_icmp .gt 60, 3) := gd_X12_makeWays_26.2.2.2.2.2.2.1
theorem dX12_makeWays_36 : decode cX12_makeWays 36 = .ok (.iload_n 2, 1) := gd_X12_makeWays_26.2.2.2.2.2.2.2.1
theorem dX12_makeWays_37 : decode cX12_makeWays 37 = .ok (.iload_n 3, 1) := gd_X12_makeWays_26.2.2.2.2.2.2.2.2.1
theorem dX12_makeWays_38 : decode cX12_makeWays 38 = .ok (.iadd, 1) := gd_X12_makeWays_26.2.2.2.2.2.2.2.2.2
theorem gd_X12_makeWays_39 : decode cX12_makeWays 39 = .ok (.aload_n 0, 1) ∧ decode cX12_makeWays 40 = .ok (.getfield 244, 3) ∧ decode cX12_makeWays 43 = .ok (.if_icmp .gt 50, 3) ∧ decode cX12_makeWays 46 = .ok (.aload_n 0, 1) ∧ decode cX12_makeWays 47 = .ok (.getfield 67, 3) ∧ decode cX12_makeWays 50 = .ok (.iload_n 2, 1) ∧ decode cX12_makeWays 51 = .ok (.baload, 1) ∧ decode cX12_makeWays 52 = .ok (.ifCond .ne 41, 3) ∧ decode cX12_makeWays 55 = .ok (.aload_n 0, 1) ∧ decode cX12_makeWays 56 = .ok (.getfield 67, 3) := by decide +kernel
theorem dX12_makeWays_39 : decode cX12_makeWays 39 = .ok (.aload_n 0, 1) := gd_X12_makeWays_39.1
theorem dX12_makeWays_40 : decode cX12_makeWays 40 = .ok (.getfield 244, 3) := gd_X12_makeWays_39.2.1
theorem dX12_makeWays_43 : decode cX12_makeWays 43 = .ok (.if_icmp .gt 50, 3) := gd_X12_makeWays_39.2.2.1
theorem dX12_makeWays_46 : decode cX12_makeWays 46 = .ok (.aload_n 0, 1) := gd_X12_makeWays_39.2.2.2.1
theorem dX12_makeWays_47 : decode cX12_makeWays 47 = .ok (.getfield 67, 3) := gd_X12_makeWays_39.2.2.2.2.1
theorem dX12_makeWays_50 : decode cX12_makeWays 50 = .ok (.iload_n 2, 1) := gd_X12_makeWays_39.2.2.2.2.2.1
theorem dX12_makeWays_51 : decode cX12_makeWays 51 = .ok (.baload, 1) := gd_X12_makeWays_39.2.2.2.2.2.2.1
theorem dX12_makeWays_52 : decode cX12_makeWays 52 = .ok (.ifCond .ne 41, 3) := gd_X12_makeWays_39.2.2.2.2.2.2.2.1
theorem dX12_makeWays_55 : decode cX12_makeWays 55 = .ok (.aload_n 0, 1) := gd_X12_makeWays_39.2.2.2.2.2.2.2.2.1
theorem dX12_makeWays_56 : decode cX12_makeWays 56 = .ok (.getfield 67, 3) := gd_X12_makeWays_39.2.2.2.2.2.2.2.2.2
theorem gd_X12_makeWays_59 : decode cX12_makeWays 59 = .ok (.iload_n 2, 1) ∧ decode cX12_makeWays 60 = .ok (.aload_n 0, 1) ∧ decode cX12_makeWays 61 = .ok (.getfield 67, 3) ∧ decode cX12_makeWays 64 = .ok (.iload_n 2, 1) ∧ decode cX12_makeWays 65 = .ok (.iload_n 3, 1) ∧ decode cX12_makeWays 66 = .ok (.iadd, 1) ∧ decode cX12_makeWays 67 = .ok (.baload, 1) ∧ decode cX12_makeWays 68 = .ok (.ifCond .eq 17, 3) ∧ decode cX12_makeWays 71 = .ok (.aload_n 0, 1) ∧ decode cX12_makeWays 72 = .ok (.iload_n 1, 1) := by decide +kernel
theorem dX12_makeWays_59 : decode cX12_makeWays 59 = .ok (.iload_n 2, 1) := gd_X12_makeWays_59.1
theorem dX12_makeWays_60 : decode cX12_makeWays 60 = .ok (.aload_n 0, 1) := gd_X12_makeWays_59.2.1
theorem dX12_makeWays_61 : decode cX12_makeWays 61 = .ok (.getfield 67, 3) := gd_X12_makeWays_59.2.2.1
theorem dX12_makeWays_64 : decode cX12_makeWays 64 = .ok (.iload_n 2, 1) := gd_X12_makeWays_59.2.2.2.1
theorem dX12_makeWays_65 : decode cX12_makeWays 65 = .ok (.iload_n 3, 1) := gd_X12_makeWays_59.2.2.2.2.1
theorem dX12_makeWays_66 : decode cX12_makeWays 66 = .ok (.iadd, 1) := gd_X12_makeWays_59.2.2.2.2.2.1
theorem dX12_makeWays_67 : decode cX12_makeWays 67 = .ok (.baload, 1) := gd_X12_makeWays_59.2.2.2.2.2.2.1
theorem dX12_makeWays_68 : decode cX12_makeWays 68 = .ok (.ifCond .eq 17, 3) := gd_X12_makeWays_59.2.2.2.2.2.2.2.1
theorem dX12_makeWays_71 : decode cX12_makeWays 71 = .ok (.aload_n 0, 1) := gd_X12_makeWays_59.2.2.2.2.2.2.2.2.1
theorem dX12_makeWays_72 : decode cX12_makeWays 72 = .ok (.iload_n 1, 1) := gd_X12_makeWays_59.2.2.2.2.2.2.2.2.2
theorem gd_X12_makeWays_73 : decode cX12_makeWays 73 = .ok (.iload_n 2, 1) ∧ decode cX12_makeWays 74 = .ok (.iload_n 3, 1) ∧ decode cX12_makeWays 75 = .ok (.invokevirtual 247, 3) ∧ decode cX12_makeWays 78 = .ok (.ifCond .eq 7, 3) ∧ decode cX12_makeWays 81 = .ok (.iconst 1, 1) ∧ decode cX12_makeWays 82 = .ok (.goto 4, 3) ∧ decode cX12_makeWays 85 = .ok (.iconst 0, 1) ∧ decode cX12_makeWays 86 = .ok (.bastore, 1) ∧ decode cX12_makeWays 87 = .ok (.iinc 3 1, 3) ∧ decode cX12_makeWays 90 = .ok (.goto (-60), 3) := by decide +kernel
theorem dX12_makeWays_73 : decode cX12_makeWays 73 = .ok (.iload_n 2, 1) := gd_X12_makeWays_73.1
theorem dX12_makeWays_74 : decode cX12_makeWays 74 = .ok (.iload_n 3, 1) := gd_X12_makeWays_73.2.1
theorem dX12_makeWays_75 : decode cX12_makeWays 75 = .ok (.invokevirtual 247, 3) := gd_X12_makeWays_73.2.2.1
theorem dX12_makeWays_78 : decode cX12_makeWays 78 = .ok (.ifCond .eq 7, 3) := gd_X12_makeWays_73.2.2.2.1
theorem dX12_makeWays_81 : decode cX12_makeWays 81 = .ok (.iconst 1, 1) := gd_X12_makeWays_73.2.2.2.2.1
theorem dX12_makeWays_82 : decode cX12_makeWays 82 = .ok (.goto 4, 3) := gd_X12_makeWays_73.2.2.2.2.2.1
theorem dX12_makeWays_85 : decode cX12_makeWays 85 = .ok (.iconst 0, 1) := gd_X12_makeWays_73.2.2.2.2.2.2.1
theorem dX12_makeWays_86 : decode cX12_makeWays 86 = .ok (.bastore, 1) := gd_X12_makeWays_73.2.2.2.2.2.2.2.1
theorem dX12_makeWays_87 : decode cX12_makeWays 87 = .ok (.iinc 3 1, 3) := gd_X12_makeWays_73.2.2.2.2.2.2.2.2.1
theorem dX12_makeWays_90 : decode cX12_makeWays 90 = .ok (.goto (-60), 3) := gd_X12_makeWays_73.2.2.2.2.2.2.2.2.2
theorem gd_X12_makeWays_93 : decode cX12_makeWays 93 = .ok (.iinc 2 (-1), 3) ∧ decode cX12_makeWays 96 = .ok (.goto (-79), 3) ∧ decode cX12_makeWays 99 = .ok (.aload_n 0, 1) ∧ decode cX12_makeWays 100 = .ok (.iconst 0, 1) ∧ decode cX12_makeWays 101 = .ok (.putfield 241, 3) ∧ decode cX12_makeWays 104 = .ok (.aload_n 0, 1) ∧ decode cX12_makeWays 105 = .ok (.getfield 67, 3) ∧ decode cX12_makeWays 108 = .ok (.iconst 0, 1) ∧ decode cX12_makeWays 109 = .ok (.baload, 1) ∧ decode cX12_makeWays 110 = .ok (.ifCond .eq 10, 3) := by decide +kernel
theorem dX12_makeWays_93 : decode cX12_makeWays 93 = .ok (.iinc 2 (-1), 3) := gd_X12_makeWays_93.1
theorem dX12_makeWays_96 : decode cX12_makeWays 96 = .ok (.goto (-79), 3) := gd_X12_makeWays_93.2.1
theorem dX12_makeWays_99 : decode cX12_makeWays 99 = .ok (.aload_n 0, 1) := gd_X12_makeWays_93.2.2.1
theorem dX12_makeWays_100 : decode cX12_makeWays 100 = .ok (.iconst 0, 1) := gd_X12_makeWays_93.2.2.2.1
theorem dX12_makeWays_101 : decode cX12_makeWays 101 = .ok (.putfield 241, 3) := gd_X12_makeWays_93.2.2.2.2.1
theorem dX12_makeWays_104 : decode cX12_makeWays 104 = .ok (.aload_n 0, 1) := gd_X12_makeWays_93.2.2.2.2.2.1
theorem dX12_makeWays_105 : decode cX12_makeWays 105 = .ok (.getfield 67, 3) := gd_X12_makeWays_93.2.2.2.2.2.2.1
theorem dX12_makeWays_108 : decode cX12_makeWays 108 = .ok (.iconst 0, 1) := gd_X12_makeWays_93.2.2.2.2.2.2.2.1
theorem dX12_makeWays_109 : decode cX12_makeWays 109 = .ok (.baload, 1) := gd_X12_makeWays_93.2.2.2.2.2.2.2.2.1
theorem dX12_makeWays_110 : decode cX12_makeWays 110 = .ok (.ifCond .eq 10, 3) := gd_X12_makeWays_93.2.2.2.2.2.2.2.2.2
theorem gd_X12_makeWays_113 : decode cX12_makeWays 113 = .ok (.aload_n 0, 1) ∧ decode cX12_makeWays 114 = .ok (.iload_n 1, 1) ∧ decode cX12_makeWays 115 = .ok (.iconst 0, 1) ∧ decode cX12_makeWays 116 = .ok (.iconst 0, 1) ∧ decode cX12_makeWays 117 = .ok (.invokevirtual 250, 3) ∧ decode cX12_makeWays 120 = .ok (.return_, 1) ∧ decode cX12_lawThrough 0 = .ok (.iconst 0, 1) ∧ decode cX12_lawThrough 1 = .ok (.istore_n 2, 1) ∧ decode cX12_lawThrough 2 = .ok (.iconst 0, 1) ∧ decode cX12_lawThrough 3 = .ok (.istore_n 3, 1) := by decide +kernel
theorem dX12_makeWays_113 : decode cX12_makeWays 113 = .ok (.aload_n 0, 1) := gd_X12_makeWays_113.1
theorem dX12_makeWays_114 : decode cX12_makeWays 114 = .ok (.iload_n 1, 1) := gd_X12_makeWays_113.2.1
theorem dX12_makeWays_115 : decode cX12_makeWays 115 = .ok (.iconst 0, 1) := gd_X12_makeWays_113.2.2.1
theorem dX12_makeWays_116 : decode cX12_makeWays 116 = .ok (.iconst 0, 1) := gd_X12_makeWays_113.2.2.2.1
theorem dX12_makeWays_117 : decode cX12_makeWays 117 = .ok (.invokevirtual 250, 3) := gd_X12_makeWays_113.2.2.2.2.1
theorem dX12_makeWays_120 : decode cX12_makeWays 120 = .ok (.return_, 1) := gd_X12_makeWays_113.2.2.2.2.2.1
theorem dX12_lawThrough_0 : decode cX12_lawThrough 0 = .ok (.iconst 0, 1) := gd_X12_makeWays_113.2.2.2.2.2.2.1
theorem dX12_lawThrough_1 : decode cX12_lawThrough 1 = .ok (.istore_n 2, 1) := gd_X12_makeWays_113.2.2.2.2.2.2.2.1
theorem dX12_lawThrough_2 : decode cX12_lawThrough 2 = .ok (.iconst 0, 1) := gd_X12_makeWays_113.2.2.2.2.2.2.2.2.1
theorem dX12_lawThrough_3 : decode cX12_lawThrough 3 = .ok (.istore_n 3, 1) := gd_X12_makeWays_113.2.2.2.2.2.2.2.2.2
theorem gd_X12_lawThrough_4 : decode cX12_lawThrough 4 = .ok (.aload_n 0, 1) ∧ decode cX12_lawThrough 5 = .ok (.getfield 33, 3) ∧ decode cX12_lawThrough 8 = .ok (.iconst 4, 1) ∧ decode cX12_lawThrough 9 = .ok (.iload_n 1, 1) ∧ decode cX12_lawThrough 10 = .ok (.imul, 1) ∧ decode cX12_lawThrough 11 = .ok (.iaload, 1) ∧ decode cX12_lawThrough 12 = .ok (.istore 4, 2) ∧ decode cX12_lawThrough 14 = .ok (.iconst 0, 1) ∧ decode cX12_lawThrough 15 = .ok (.istore 5, 2) ∧ decode cX12_lawThrough 17 = .ok (.iload_n 3, 1) := by decide +kernel
theorem dX12_lawThrough_4 : decode cX12_lawThrough 4 = .ok (.aload_n 0, 1) := gd_X12_lawThrough_4.1
theorem dX12_lawThrough_5 : decode cX12_lawThrough 5 = .ok (.getfield 33, 3) := gd_X12_lawThrough_4.2.1
theorem dX12_lawThrough_8 : decode cX12_lawThrough 8 = .ok (.iconst 4, 1) := gd_X12_lawThrough_4.2.2.1
theorem dX12_lawThrough_9 : decode cX12_lawThrough 9 = .ok (.iload_n 1, 1) := gd_X12_lawThrough_4.2.2.2.1
theorem dX12_lawThrough_10 : decode cX12_lawThrough 10 = .ok (.imul, 1) := gd_X12_lawThrough_4.2.2.2.2.1
theorem dX12_lawThrough_11 : decode cX12_lawThrough 11 = .ok (.iaload, 1) := gd_X12_lawThrough_4.2.2.2.2.2.1
theorem dX12_lawThrough_12 : decode cX12_lawThrough 12 = .ok (.istore 4, 2) := gd_X12_lawThrough_4.2.2.2.2.2.2.1
theorem dX12_lawThrough_14 : decode cX12_lawThrough 14 = .ok (.iconst 0, 1) := gd_X12_lawThrough_4.2.2.2.2.2.2.2.1
theorem dX12_lawThrough_15 : decode cX12_lawThrough 15 = .ok (.istore 5, 2) := gd_X12_lawThrough_4.2.2.2.2.2.2.2.2.1
theorem dX12_lawThrough_17 : decode cX12_lawThrough 17 = .ok (.iload_n 3, 1) := gd_X12_lawThrough_4.2.2.2.2.2.2.2.2.2
theorem gd_X12_lawThrough_18 : decode cX12_lawThrough 18 = .ok (.aload_n 0, 1) ∧ decode cX12_lawThrough 19 = .ok (.getfield 253, 3) ∧ decode cX12_lawThrough 22 = .ok (.if_icmp .ge 257, 3) ∧ decode cX12_lawThrough 25 = .ok (.aload_n 0, 1) ∧ decode cX12_lawThrough 26 = .ok (.iconst 4, 1) ∧ decode cX12_lawThrough 27 = .ok (.iload_n 1, 1) ∧ decode cX12_lawThrough 28 = .ok (.imul, 1) ∧ decode cX12_lawThrough 29 = .ok (.aload_n 0, 1) ∧ decode cX12_lawThrough 30 = .ok (.getfield 70, 3) ∧ decode cX12_lawThrough 33 = .ok (.iload_n 3, 1) := by decide +kernel
theorem dX12_lawThrough_18 : decode cX12_lawThrough 18 = .ok (.aload_n 0, 1) := gd_X12_lawThrough_18.1
theorem dX12_lawThrough_19 : decode cX12_lawThrough 19 = .ok (.getfield 253, 3) := gd_X12_lawThrough_18.2.1
theorem dX12_lawThrough_22 : decode cX12_lawThrough 22 = .ok (.if_icmp .ge 257, 3) := gd_X12_lawThrough_18.2.2.1
theorem dX12_lawThrough_25 : decode cX12_lawThrough 25 = .ok (.aload_n 0, 1) := gd_X12_lawThrough_18.2.2.2.1
theorem dX12_lawThrough_26 : decode cX12_lawThrough 26 = .ok (.iconst 4, 1) := gd_X12_lawThrough_18.2.2.2.2.1
theorem dX12_lawThrough_27 : decode cX12_lawThrough 27 = .ok (.iload_n 1, 1) := gd_X12_lawThrough_18.2.2.2.2.2.1
theorem dX12_lawThrough_28 : decode cX12_lawThrough 28 = .ok (.imul, 1) := gd_X12_lawThrough_18.2.2.2.2.2.2.1
theorem dX12_lawThrough_29 : decode cX12_lawThrough 29 = .ok (.aload_n 0, 1) := gd_X12_lawThrough_18.2.2.2.2.2.2.2.1
theorem dX12_lawThrough_30 : decode cX12_lawThrough 30 = .ok (.getfield 70, 3) := gd_X12_lawThrough_18.2.2.2.2.2.2.2.2.1
theorem dX12_lawThrough_33 : decode cX12_lawThrough 33 = .ok (.iload_n 3, 1) := gd_X12_lawThrough_18.2.2.2.2.2.2.2.2.2
theorem gd_X12_lawThrough_34 : decode cX12_lawThrough 34 = .ok (.aload_n 0, 1) ∧ decode cX12_lawThrough 35 = .ok (.getfield 253, 3) ∧ decode cX12_lawThrough 38 = .ok (.invokevirtual 256, 3) ∧ decode cX12_lawThrough 41 = .ok (.istore 6, 2) ∧ decode cX12_lawThrough 43 = .ok (.iload 6, 2) ∧ decode cX12_lawThrough 45 = .ok (.ifCond .eq 40, 3) ∧ decode cX12_lawThrough 48 = .ok (.aload_n 0, 1) ∧ decode cX12_lawThrough 49 = .ok (.getfield 36, 3) ∧ decode cX12_lawThrough 52 = .ok (.iload_n 1, 1) ∧ decode cX12_lawThrough 53 = .ok (.baload, 1) := by decide +kernel
theorem dX12_lawThrough_34 : decode cX12_lawThrough 34 = .ok (.aload_n 0, 1) := gd_X12_lawThrough_34.1
theorem dX12_lawThrough_35 : decode cX12_lawThrough 35 = .ok (.getfield 253, 3) := gd_X12_lawThrough_34.2.1
theorem dX12_lawThrough_38 : decode cX12_lawThrough 38 = .ok (.invokevirtual 256, 3) := gd_X12_lawThrough_34.2.2.1
theorem dX12_lawThrough_41 : decode cX12_lawThrough 41 = .ok (.istore 6, 2) := gd_X12_lawThrough_34.2.2.2.1
theorem dX12_lawThrough_43 : decode cX12_lawThrough 43 = .ok (.iload 6, 2) := gd_X12_lawThrough_34.2.2.2.2.1
theorem dX12_lawThrough_45 : decode cX12_lawThrough 45 = .ok (.ifCond .eq 40, 3) := gd_X12_lawThrough_34.2.2.2.2.2.1
theorem dX12_lawThrough_48 : decode cX12_lawThrough 48 = .ok (.aload_n 0, 1) := gd_X12_lawThrough_34.2.2.2.2.2.2.1
theorem dX12_lawThrough_49 : decode cX12_lawThrough 49 = .ok (.getfield 36, 3) := gd_X12_lawThrough_34.2.2.2.2.2.2.2.1
theorem dX12_lawThrough_52 : decode cX12_lawThrough 52 = .ok (.iload_n 1, 1) := gd_X12_lawThrough_34.2.2.2.2.2.2.2.2.1
theorem dX12_lawThrough_53 : decode cX12_lawThrough 53 = .ok (.baload, 1) := gd_X12_lawThrough_34.2.2.2.2.2.2.2.2.2
theorem gd_X12_lawThrough_54 : decode cX12_lawThrough 54 = .ok (.ifCond .eq 7, 3) ∧ decode cX12_lawThrough 57 = .ok (.iload_n 2, 1) ∧ decode cX12_lawThrough 58 = .ok (.ifCond .ne 27, 3) ∧ decode cX12_lawThrough 61 = .ok (.aload_n 0, 1) ∧ decode cX12_lawThrough 62 = .ok (.getfield 40, 3) ∧ decode cX12_lawThrough 65 = .ok (.iload_n 1, 1) ∧ decode cX12_lawThrough 66 = .ok (.baload, 1) ∧ decode cX12_lawThrough 67 = .ok (.ifCond .eq 14, 3) ∧ decode cX12_lawThrough 70 = .ok (.iload_n 3, 1) ∧ decode cX12_lawThrough 71 = .ok (.iload 4, 2) := by decide +kernel
theorem dX12_lawThrough_54 : decode cX12_lawThrough 54 = .ok (.ifCond .eq 7, 3) := gd_X12_lawThrough_54.1
theorem dX12_lawThrough_57 : decode cX12_lawThrough 57 = .ok (.iload_n 2, 1) := gd_X12_lawThrough_54.2.1
theorem dX12_lawThrough_58 : decode cX12_lawThrough 58 = .ok (.ifCond .ne 27, 3) := gd_X12_lawThrough_54.2.2.1
theorem dX12_lawThrough_61 : decode cX12_lawThrough 61 = .ok (.aload_n 0, 1) := gd_X12_lawThrough_54.2.2.2.1
theorem dX12_lawThrough_62 : decode cX12_lawThrough 62 = .ok (.getfield 40, 3) := gd_X12_lawThrough_54.2.2.2.2.1
theorem dX12_lawThrough_65 : decode cX12_lawThrough 65 = .ok (.iload_n 1, 1) := gd_X12_lawThrough_54.2.2.2.2.2.1
theorem dX12_lawThrough_66 : decode cX12_lawThrough 66 = .ok (.baload, 1) := gd_X12_lawThrough_54.2.2.2.2.2.2.1
theorem dX12_lawThrough_67 : decode cX12_lawThrough 67 = .ok (.ifCond .eq 14, 3) := gd_X12_lawThrough_54.2.2.2.2.2.2.2.1
theorem dX12_lawThrough_70 : decode cX12_lawThrough 70 = .ok (.iload_n 3, 1) := gd_X12_lawThrough_54.2.2.2.2.2.2.2.2.1
theorem dX12_lawThrough_71 : decode cX12_lawThrough 71 = .ok (.iload 4, 2) := gd_X12_lawThrough_54.2.2.2.2.2.2.2.2.2
theorem gd_X12_lawThrough_73 : decode cX12_lawThrough 73 = .ok (.iadd, 1) ∧ decode cX12_lawThrough 74 = .ok (.aload_n 0, 1) ∧ decode cX12_lawThrough 75 = .ok (.getfield 253, 3) ∧ decode cX12_lawThrough 78 = .ok (.if_icmp .ne 7, 3) ∧ decode cX12_lawThrough 81 = .ok (.iconst 1, 1) ∧ decode cX12_lawThrough 82 = .ok (.goto 4, 3) ∧ decode cX12_lawThrough 85 = .ok (.iconst 0, 1) ∧ decode cX12_lawThrough 86 = .ok (.istore 6, 2) ∧ decode cX12_lawThrough 88 = .ok (.iload 6, 2) ∧ decode cX12_lawThrough 90 = .ok (.ifCond .eq 50, 3) := by decide +kernel
theorem dX12_lawThrough_73 : decode cX12_lawThrough 73 = .ok (.iadd, 1) := gd_X12_lawThrough_73.1
theorem dX12_lawThrough_74 : decode cX12_lawThrough 74 = .ok (.aload_n 0, 1) := gd_X12_lawThrough_73.2.1
theorem dX12_lawThrough_75 : decode cX12_lawThrough 75 = .ok (.getfield 253, 3) := gd_X12_lawThrough_73.2.2.1
theorem dX12_lawThrough_78 : decode cX12_lawThrough 78 = .ok (.if_icmp .ne 7, 3) := gd_X12_lawThrough_73.2.2.2.1
theorem dX12_lawThrough_81 : decode cX12_lawThrough 81 = .ok (.iconst 1, 1) := gd_X12_lawThrough_73.2.2.2.2.1
theorem dX12_lawThrough_82 : decode cX12_lawThrough 82 = .ok (.goto 4, 3) := gd_X12_lawThrough_73.2.2.2.2.2.1
theorem dX12_lawThrough_85 : decode cX12_lawThrough 85 = .ok (.iconst 0, 1) := gd_X12_lawThrough_73.2.2.2.2.2.2.1
theorem dX12_lawThrough_86 : decode cX12_lawThrough 86 = .ok (.istore 6, 2) := gd_X12_lawThrough_73.2.2.2.2.2.2.2.1
theorem dX12_lawThrough_88 : decode cX12_lawThrough 88 = .ok (.iload 6, 2) := gd_X12_lawThrough_73.2.2.2.2.2.2.2.2.1
theorem dX12_lawThrough_90 : decode cX12_lawThrough 90 = .ok (.ifCond .eq 50, 3) := gd_X12_lawThrough_73.2.2.2.2.2.2.2.2.2
theorem gd_X12_lawThrough_93 : decode cX12_lawThrough 93 = .ok (.aload_n 0, 1) ∧ decode cX12_lawThrough 94 = .ok (.getfield 33, 3) ∧ decode cX12_lawThrough 97 = .ok (.iconst 4, 1) ∧ decode cX12_lawThrough 98 = .ok (.iload_n 1, 1) ∧ decode cX12_lawThrough 99 = .ok (.imul, 1) ∧ decode cX12_lawThrough 100 = .ok (.iconst 2, 1) ∧ decode cX12_lawThrough 101 = .ok (.iadd, 1) ∧ decode cX12_lawThrough 102 = .ok (.iaload, 1) ∧ decode cX12_lawThrough 103 = .ok (.iconst (-1), 1) ∧ decode cX12_lawThrough 104 = .ok (.if_icmp .eq 32, 3) := by decide +kernel
theorem dX12_lawThrough_93 : decode cX12_lawThrough 93 = .ok (.aload_n 0, 1) := gd_X12_lawThrough_93.1
theorem dX12_lawThrough_94 : decode cX12_lawThrough 94 = .ok (.getfield 33, 3) := gd_X12_lawThrough_93.2.1
theorem dX12_lawThrough_97 : decode cX12_lawThrough 97 = .ok (.iconst 4, 1) := gd_X12_lawThrough_93.2.2.1
theorem dX12_lawThrough_98 : decode cX12_lawThrough 98 = .ok (.iload_n 1, 1) := gd_X12_lawThrough_93.2.2.2.1
theorem dX12_lawThrough_99 : decode cX12_lawThrough 99 = .ok (.imul, 1) := gd_X12_lawThrough_93.2.2.2.2.1
theorem dX12_lawThrough_100 : decode cX12_lawThrough 100 = .ok (.iconst 2, 1) := gd_X12_lawThrough_93.2.2.2.2.2.1
theorem dX12_lawThrough_101 : decode cX12_lawThrough 101 = .ok (.iadd, 1) := gd_X12_lawThrough_93.2.2.2.2.2.2.1
theorem dX12_lawThrough_102 : decode cX12_lawThrough 102 = .ok (.iaload, 1) := gd_X12_lawThrough_93.2.2.2.2.2.2.2.1
theorem dX12_lawThrough_103 : decode cX12_lawThrough 103 = .ok (.iconst (-1), 1) := gd_X12_lawThrough_93.2.2.2.2.2.2.2.2.1
theorem dX12_lawThrough_104 : decode cX12_lawThrough 104 = .ok (.if_icmp .eq 32, 3) := gd_X12_lawThrough_93.2.2.2.2.2.2.2.2.2
theorem gd_X12_lawThrough_107 : decode cX12_lawThrough 107 = .ok (.aload_n 0, 1) ∧ decode cX12_lawThrough 108 = .ok (.iconst 4, 1) ∧ decode cX12_lawThrough 109 = .ok (.iload_n 1, 1) ∧ decode cX12_lawThrough 110 = .ok (.imul, 1) ∧ decode cX12_lawThrough 111 = .ok (.iconst 2, 1) ∧ decode cX12_lawThrough 112 = .ok (.iadd, 1) ∧ decode cX12_lawThrough 113 = .ok (.aload_n 0, 1) ∧ decode cX12_lawThrough 114 = .ok (.getfield 73, 3) ∧ decode cX12_lawThrough 117 = .ok (.iload_n 2, 1) ∧ decode cX12_lawThrough 118 = .ok (.aload_n 0, 1) := by decide +kernel
theorem dX12_lawThrough_107 : decode cX12_lawThrough 107 = .ok (.aload_n 0, 1) := gd_X12_lawThrough_107.1
theorem dX12_lawThrough_108 : decode cX12_lawThrough 108 = .ok (.iconst 4, 1) := gd_X12_lawThrough_107.2.1
theorem dX12_lawThrough_109 : decode cX12_lawThrough 109 = .ok (.iload_n 1, 1) := gd_X12_lawThrough_107.2.2.1
theorem dX12_lawThrough_110 : decode cX12_lawThrough 110 = .ok (.imul, 1) := gd_X12_lawThrough_107.2.2.2.1
theorem dX12_lawThrough_111 : decode cX12_lawThrough 111 = .ok (.iconst 2, 1) := gd_X12_lawThrough_107.2.2.2.2.1
theorem dX12_lawThrough_112 : decode cX12_lawThrough 112 = .ok (.iadd, 1) := gd_X12_lawThrough_107.2.2.2.2.2.1
theorem dX12_lawThrough_113 : decode cX12_lawThrough 113 = .ok (.aload_n 0, 1) := gd_X12_lawThrough_107.2.2.2.2.2.2.1
theorem dX12_lawThrough_114 : decode cX12_lawThrough 114 = .ok (.getfield 73, 3) := gd_X12_lawThrough_107.2.2.2.2.2.2.2.1
theorem dX12_lawThrough_117 : decode cX12_lawThrough 117 = .ok (.iload_n 2, 1) := gd_X12_lawThrough_107.2.2.2.2.2.2.2.2.1
theorem dX12_lawThrough_118 : decode cX12_lawThrough 118 = .ok (.aload_n 0, 1) := gd_X12_lawThrough_107.2.2.2.2.2.2.2.2.2
theorem gd_X12_lawThrough_119 : decode cX12_lawThrough 119 = .ok (.getfield 33, 3) ∧ decode cX12_lawThrough 122 = .ok (.iconst 4, 1) ∧ decode cX12_lawThrough 123 = .ok (.iload_n 1, 1) ∧ decode cX12_lawThrough 124 = .ok (.imul, 1) ∧ decode cX12_lawThrough 125 = .ok (.iconst 2, 1) ∧ decode cX12_lawThrough 126 = .ok (.iadd, 1) ∧ decode cX12_lawThrough 127 = .ok (.iaload, 1) ∧ decode cX12_lawThrough 128 = .ok (.isub, 1) ∧ decode cX12_lawThrough 129 = .ok (.iload_n 2, 1) ∧ decode cX12_lawThrough 130 = .ok (.invokevirtual 256, 3) := by decide +kernel
theorem dX12_lawThrough_119 : decode cX12_lawThrough 119 = .ok (.getfield 33, 3) := gd_X12_lawThrough_119.1
theorem dX12_lawThrough_122 : decode cX12_lawThrough 122 = .ok (.iconst 4, 1) := gd_X12_lawThrough_119.2.1
theorem dX12_lawThrough_123 : decode cX12_lawThrough 123 = .ok (.iload_n 1, 1) := gd_X12_lawThrough_119.2.2.1
theorem dX12_lawThrough_124 : decode cX12_lawThrough 124 = .ok (.imul, 1) := gd_X12_lawThrough_119.2.2.2.1
theorem dX12_lawThrough_125 : decode cX12_lawThrough 125 = .ok (.iconst 2, 1) := gd_X12_lawThrough_119.2.2.2.2.1
theorem dX12_lawThrough_126 : decode cX12_lawThrough 126 = .ok (.iadd, 1) := gd_X12_lawThrough_119.2.2.2.2.2.1
theorem dX12_lawThrough_127 : decode cX12_lawThrough 127 = .ok (.iaload, 1) := gd_X12_lawThrough_119.2.2.2.2.2.2.1
theorem dX12_lawThrough_128 : decode cX12_lawThrough 128 = .ok (.isub, 1) := gd_X12_lawThrough_119.2.2.2.2.2.2.2.1
theorem dX12_lawThrough_129 : decode cX12_lawThrough 129 = .ok (.iload_n 2, 1) := gd_X12_lawThrough_119.2.2.2.2.2.2.2.2.1
theorem dX12_lawThrough_130 : decode cX12_lawThrough 130 = .ok (.invokevirtual 256, 3) := gd_X12_lawThrough_119.2.2.2.2.2.2.2.2.2
theorem gd_X12_lawThrough_133 : decode cX12_lawThrough 133 = .ok (.ifCond .eq 7, 3) ∧ decode cX12_lawThrough 136 = .ok (.iconst 1, 1) ∧ decode cX12_lawThrough 137 = .ok (.goto 4, 3) ∧ decode cX12_lawThrough 140 = .ok (.iconst 0, 1) ∧ decode cX12_lawThrough 141 = .ok (.istore 6, 2) ∧ decode cX12_lawThrough 143 = .ok (.iload 6, 2) ∧ decode cX12_lawThrough 145 = .ok (.ifCond .eq 45, 3) ∧ decode cX12_lawThrough 148 = .ok (.aload_n 0, 1) ∧ decode cX12_lawThrough 149 = .ok (.getfield 33, 3) ∧ decode cX12_lawThrough 152 = .ok (.iconst 4, 1) := by decide +kernel
theorem dX12_lawThrough_133 : decode cX12_lawThrough 133 = .ok (.ifCond .eq 7, 3) := gd_X12_lawThrough_133.1
theorem dX12_lawThrough_136 : decode cX12_lawThrough 136 = .ok (.iconst 1, 1) := gd_X12_lawThrough_133.2.1
theorem dX12_lawThrough_137 : decode cX12_lawThrough 137 = .ok (.goto 4, 3) := gd_X12_lawThrough_133.2.2.1
theorem dX12_lawThrough_140 : decode cX12_lawThrough 140 = .ok (.iconst 0, 1) := gd_X12_lawThrough_133.2.2.2.1
theorem dX12_lawThrough_141 : decode cX12_lawThrough 141 = .ok (.istore 6, 2) := gd_X12_lawThrough_133.2.2.2.2.1
theorem dX12_lawThrough_143 : decode cX12_lawThrough 143 = .ok (.iload 6, 2) := gd_X12_lawThrough_133.2.2.2.2.2.1
theorem dX12_lawThrough_145 : decode cX12_lawThrough 145 = .ok (.ifCond .eq 45, 3) := gd_X12_lawThrough_133.2.2.2.2.2.2.1
theorem dX12_lawThrough_148 : decode cX12_lawThrough 148 = .ok (.aload_n 0, 1) := gd_X12_lawThrough_133.2.2.2.2.2.2.2.1
theorem dX12_lawThrough_149 : decode cX12_lawThrough 149 = .ok (.getfield 33, 3) := gd_X12_lawThrough_133.2.2.2.2.2.2.2.2.1
theorem dX12_lawThrough_152 : decode cX12_lawThrough 152 = .ok (.iconst 4, 1) := gd_X12_lawThrough_133.2.2.2.2.2.2.2.2.2
theorem gd_X12_lawThrough_153 : decode cX12_lawThrough 153 = .ok (.iload_n 1, 1) ∧ decode cX12_lawThrough 154 = .ok (.imul, 1) ∧ decode cX12_lawThrough 155 = .ok (.iconst 3, 1) ∧ decode cX12_lawThrough 156 = .ok (.iadd, 1) ∧ decode cX12_lawThrough 157 = .ok (.iaload, 1) ∧ decode cX12_lawThrough 158 = .ok (.iconst (-1), 1) ∧ decode cX12_lawThrough 159 = .ok (.if_icmp .eq 27, 3) ∧ decode cX12_lawThrough 162 = .ok (.aload_n 0, 1) ∧ decode cX12_lawThrough 163 = .ok (.iconst 4, 1) ∧ decode cX12_lawThrough 164 = .ok (.iload_n 1, 1) := by decide +kernel
theorem dX12_lawThrough_153 : decode cX12_lawThrough 153 = .ok (.iload_n 1, 1) := gd_X12_lawThrough_153.1
theorem dX12_lawThrough_154 : decode cX12_lawThrough 154 = .ok (.imul, 1) := gd_X12_lawThrough_153.2.1
theorem dX12_lawThrough_155 : decode cX12_lawThrough 155 = .ok (.iconst 3, 1) := gd_X12_lawThrough_153.2.2.1
theorem dX12_lawThrough_156 : decode cX12_lawThrough 156 = .ok (.iadd, 1) := gd_X12_lawThrough_153.2.2.2.1
theorem dX12_lawThrough_157 : decode cX12_lawThrough 157 = .ok (.iaload, 1) := gd_X12_lawThrough_153.2.2.2.2.1
theorem dX12_lawThrough_158 : decode cX12_lawThrough 158 = .ok (.iconst (-1), 1) := gd_X12_lawThrough_153.2.2.2.2.2.1
theorem dX12_lawThrough_159 : decode cX12_lawThrough 159 = .ok (.if_icmp .eq 27, 3) := gd_X12_lawThrough_153.2.2.2.2.2.2.1
theorem dX12_lawThrough_162 : decode cX12_lawThrough 162 = .ok (.aload_n 0, 1) := gd_X12_lawThrough_153.2.2.2.2.2.2.2.1
theorem dX12_lawThrough_163 : decode cX12_lawThrough 163 = .ok (.iconst 4, 1) := gd_X12_lawThrough_153.2.2.2.2.2.2.2.2.1
theorem dX12_lawThrough_164 : decode cX12_lawThrough 164 = .ok (.iload_n 1, 1) := gd_X12_lawThrough_153.2.2.2.2.2.2.2.2.2
theorem gd_X12_lawThrough_165 : decode cX12_lawThrough 165 = .ok (.imul, 1) ∧ decode cX12_lawThrough 166 = .ok (.iconst 3, 1) ∧ decode cX12_lawThrough 167 = .ok (.iadd, 1) ∧ decode cX12_lawThrough 168 = .ok (.aload_n 0, 1) ∧ decode cX12_lawThrough 169 = .ok (.getfield 70, 3) ∧ decode cX12_lawThrough 172 = .ok (.iload_n 3, 1) ∧ decode cX12_lawThrough 173 = .ok (.iload 4, 2) ∧ decode cX12_lawThrough 175 = .ok (.iadd, 1) ∧ decode cX12_lawThrough 176 = .ok (.aload_n 0, 1) ∧ decode cX12_lawThrough 177 = .ok (.getfield 253, 3) := by decide +kernel
theorem dX12_lawThrough_165 : decode cX12_lawThrough 165 = .ok (.imul, 1) := gd_X12_lawThrough_165.1
theorem dX12_lawThrough_166 : decode cX12_lawThrough 166 = .ok (.iconst 3, 1) := gd_X12_lawThrough_165.2.1
theorem dX12_lawThrough_167 : decode cX12_lawThrough 167 = .ok (.iadd, 1) := gd_X12_lawThrough_165.2.2.1
theorem dX12_lawThrough_168 : decode cX12_lawThrough 168 = .ok (.aload_n 0, 1) := gd_X12_lawThrough_165.2.2.2.1
theorem dX12_lawThrough_169 : decode cX12_lawThrough 169 = .ok (.getfield 70, 3) := gd_X12_lawThrough_165.2.2.2.2.1
theorem dX12_lawThrough_172 : decode cX12_lawThrough 172 = .ok (.iload_n 3, 1) := gd_X12_lawThrough_165.2.2.2.2.2.1
theorem dX12_lawThrough_173 : decode cX12_lawThrough 173 = .ok (.iload 4, 2) := gd_X12_lawThrough_165.2.2.2.2.2.2.1
theorem dX12_lawThrough_175 : decode cX12_lawThrough 175 = .ok (.iadd, 1) := gd_X12_lawThrough_165.2.2.2.2.2.2.2.1
theorem dX12_lawThrough_176 : decode cX12_lawThrough 176 = .ok (.aload_n 0, 1) := gd_X12_lawThrough_165.2.2.2.2.2.2.2.2.1
theorem dX12_lawThrough_177 : decode cX12_lawThrough 177 = .ok (.getfield 253, 3) := gd_X12_lawThrough_165.2.2.2.2.2.2.2.2.2
theorem gd_X12_lawThrough_180 : decode cX12_lawThrough 180 = .ok (.invokevirtual 256, 3) ∧ decode cX12_lawThrough 183 = .ok (.ifCond .eq 7, 3) ∧ decode cX12_lawThrough 186 = .ok (.iconst 1, 1) ∧ decode cX12_lawThrough 187 = .ok (.goto 4, 3) ∧ decode cX12_lawThrough 190 = .ok (.iconst 0, 1) ∧ decode cX12_lawThrough 191 = .ok (.istore 6, 2) ∧ decode cX12_lawThrough 193 = .ok (.iload 6, 2) ∧ decode cX12_lawThrough 195 = .ok (.ifCond .ne 24, 3) ∧ decode cX12_lawThrough 198 = .ok (.aload_n 0, 1) ∧ decode cX12_lawThrough 199 = .ok (.getfield 73, 3) := by decide +kernel
theorem dX12_lawThrough_180 : decode cX12_lawThrough 180 = .ok (.invokevirtual 256, 3) := gd_X12_lawThrough_180.1
theorem dX12_lawThrough_183 : decode cX12_lawThrough 183 = .ok (.ifCond .eq 7, 3) := gd_X12_lawThrough_180.2.1
theorem dX12_lawThrough_186 : decode cX12_lawThrough 186 = .ok (.iconst 1, 1) := gd_X12_lawThrough_180.2.2.1
theorem dX12_lawThrough_187 : decode cX12_lawThrough 187 = .ok (.goto 4, 3) := gd_X12_lawThrough_180.2.2.2.1
theorem dX12_lawThrough_190 : decode cX12_lawThrough 190 = .ok (.iconst 0, 1) := gd_X12_lawThrough_180.2.2.2.2.1
theorem dX12_lawThrough_191 : decode cX12_lawThrough 191 = .ok (.istore 6, 2) := gd_X12_lawThrough_180.2.2.2.2.2.1
theorem dX12_lawThrough_193 : decode cX12_lawThrough 193 = .ok (.iload 6, 2) := gd_X12_lawThrough_180.2.2.2.2.2.2.1
theorem dX12_lawThrough_195 : decode cX12_lawThrough 195 = .ok (.ifCond .ne 24, 3) := gd_X12_lawThrough_180.2.2.2.2.2.2.2.1
theorem dX12_lawThrough_198 : decode cX12_lawThrough 198 = .ok (.aload_n 0, 1) := gd_X12_lawThrough_180.2.2.2.2.2.2.2.2.1
theorem dX12_lawThrough_199 : decode cX12_lawThrough 199 = .ok (.getfield 73, 3) := gd_X12_lawThrough_180.2.2.2.2.2.2.2.2.2
theorem gd_X12_lawThrough_202 : decode cX12_lawThrough 202 = .ok (.iload_n 2, 1) ∧ decode cX12_lawThrough 203 = .ok (.aload_n 0, 1) ∧ decode cX12_lawThrough 204 = .ok (.getfield 70, 3) ∧ decode cX12_lawThrough 207 = .ok (.iload_n 3, 1) ∧ decode cX12_lawThrough 208 = .ok (.baload, 1) ∧ decode cX12_lawThrough 209 = .ok (.bastore, 1) ∧ decode cX12_lawThrough 210 = .ok (.iinc 2 1, 3) ∧ decode cX12_lawThrough 213 = .ok (.iinc 3 1, 3) ∧ decode cX12_lawThrough 216 = .ok (.goto (-199), 3) ∧ decode cX12_lawThrough 219 = .ok (.iconst 1, 1) := by decide +kernel
theorem dX12_lawThrough_202 : decode cX12_lawThrough 202 = .ok (.iload_n 2, 1) := gd_X12_lawThrough_202.1
theorem dX12_lawThrough_203 : decode cX12_lawThrough 203 = .ok (.aload_n 0, 1) := gd_X12_lawThrough_202.2.1
theorem dX12_lawThrough_204 : decode cX12_lawThrough 204 = .ok (.getfield 70, 3) := gd_X12_lawThrough_202.2.2.1
theorem dX12_lawThrough_207 : decode cX12_lawThrough 207 = .ok (.iload_n 3, 1) := gd_X12_lawThrough_202.2.2.2.1
theorem dX12_lawThrough_208 : decode cX12_lawThrough 208 = .ok (.baload, 1) := gd_X12_lawThrough_202.2.2.2.2.1
theorem dX12_lawThrough_209 : decode cX12_lawThrough 209 = .ok (.bastore, 1) := gd_X12_lawThrough_202.2.2.2.2.2.1
theorem dX12_lawThrough_210 : decode cX12_lawThrough 210 = .ok (.iinc 2 1, 3) := gd_X12_lawThrough_202.2.2.2.2.2.2.1
theorem dX12_lawThrough_213 : decode cX12_lawThrough 213 = .ok (.iinc 3 1, 3) := gd_X12_lawThrough_202.2.2.2.2.2.2.2.1
theorem dX12_lawThrough_216 : decode cX12_lawThrough 216 = .ok (.goto (-199), 3) := gd_X12_lawThrough_202.2.2.2.2.2.2.2.2.1
theorem dX12_lawThrough_219 : decode cX12_lawThrough 219 = .ok (.iconst 1, 1) := gd_X12_lawThrough_202.2.2.2.2.2.2.2.2.2
theorem gd_X12_lawThrough_220 : decode cX12_lawThrough 220 = .ok (.istore 5, 2) ∧ decode cX12_lawThrough 222 = .ok (.iconst 0, 1) ∧ decode cX12_lawThrough 223 = .ok (.istore 7, 2) ∧ decode cX12_lawThrough 225 = .ok (.iload 7, 2) ∧ decode cX12_lawThrough 227 = .ok (.aload_n 0, 1) ∧ decode cX12_lawThrough 228 = .ok (.getfield 33, 3) ∧ decode cX12_lawThrough 231 = .ok (.iconst 4, 1) ∧ decode cX12_lawThrough 232 = .ok (.iload_n 1, 1) ∧ decode cX12_lawThrough 233 = .ok (.imul, 1) ∧ decode cX12_lawThrough 234 = .ok (.iconst 1, 1) := by decide +kernel
theorem dX12_lawThrough_220 : decode cX12_lawThrough 220 = .ok (.istore 5, 2) := gd_X12_lawThrough_220.1
theorem dX12_lawThrough_222 : decode cX12_lawThrough 222 = .ok (.iconst 0, 1) := gd_X12_lawThrough_220.2.1
theorem dX12_lawThrough_223 : decode cX12_lawThrough 223 = .ok (.istore 7, 2) := gd_X12_lawThrough_220.2.2.1
theorem dX12_lawThrough_225 : decode cX12_lawThrough 225 = .ok (.iload 7, 2) := gd_X12_lawThrough_220.2.2.2.1
theorem dX12_lawThrough_227 : decode cX12_lawThrough 227 = .ok (.aload_n 0, 1) := gd_X12_lawThrough_220.2.2.2.2.1
theorem dX12_lawThrough_228 : decode cX12_lawThrough 228 = .ok (.getfield 33, 3) := gd_X12_lawThrough_220.2.2.2.2.2.1
theorem dX12_lawThrough_231 : decode cX12_lawThrough 231 = .ok (.iconst 4, 1) := gd_X12_lawThrough_220.2.2.2.2.2.2.1
theorem dX12_lawThrough_232 : decode cX12_lawThrough 232 = .ok (.iload_n 1, 1) := gd_X12_lawThrough_220.2.2.2.2.2.2.2.1
theorem dX12_lawThrough_233 : decode cX12_lawThrough 233 = .ok (.imul, 1) := gd_X12_lawThrough_220.2.2.2.2.2.2.2.2.1
theorem dX12_lawThrough_234 : decode cX12_lawThrough 234 = .ok (.iconst 1, 1) := gd_X12_lawThrough_220.2.2.2.2.2.2.2.2.2
theorem gd_X12_lawThrough_235 : decode cX12_lawThrough 235 = .ok (.iadd, 1) ∧ decode cX12_lawThrough 236 = .ok (.iaload, 1) ∧ decode cX12_lawThrough 237 = .ok (.if_icmp .ge 34, 3) ∧ decode cX12_lawThrough 240 = .ok (.aload_n 0, 1) ∧ decode cX12_lawThrough 241 = .ok (.getfield 73, 3) ∧ decode cX12_lawThrough 244 = .ok (.iload_n 2, 1) ∧ decode cX12_lawThrough 245 = .ok (.aload_n 0, 1) ∧ decode cX12_lawThrough 246 = .ok (.getfield 30, 3) ∧ decode cX12_lawThrough 249 = .ok (.bipush 16, 2) ∧ decode cX12_lawThrough 251 = .ok (.iconst 4, 1) := by decide +kernel
theorem dX12_lawThrough_235 : decode cX12_lawThrough 235 = .ok (.iadd, 1) := gd_X12_lawThrough_235.1
theorem dX12_lawThrough_236 : decode cX12_lawThrough 236 = .ok (.iaload, 1) := gd_X12_lawThrough_235.2.1
theorem dX12_lawThrough_237 : decode cX12_lawThrough 237 = .ok (.if_icmp .ge 34, 3) := gd_X12_lawThrough_235.2.2.1
theorem dX12_lawThrough_240 : decode cX12_lawThrough 240 = .ok (.aload_n 0, 1) := gd_X12_lawThrough_235.2.2.2.1
theorem dX12_lawThrough_241 : decode cX12_lawThrough 241 = .ok (.getfield 73, 3) := gd_X12_lawThrough_235.2.2.2.2.1
theorem dX12_lawThrough_244 : decode cX12_lawThrough 244 = .ok (.iload_n 2, 1) := gd_X12_lawThrough_235.2.2.2.2.2.1
theorem dX12_lawThrough_245 : decode cX12_lawThrough 245 = .ok (.aload_n 0, 1) := gd_X12_lawThrough_235.2.2.2.2.2.2.1
theorem dX12_lawThrough_246 : decode cX12_lawThrough 246 = .ok (.getfield 30, 3) := gd_X12_lawThrough_235.2.2.2.2.2.2.2.1
theorem dX12_lawThrough_249 : decode cX12_lawThrough 249 = .ok (.bipush 16, 2) := gd_X12_lawThrough_235.2.2.2.2.2.2.2.2.1
theorem dX12_lawThrough_251 : decode cX12_lawThrough 251 = .ok (.iconst 4, 1) := gd_X12_lawThrough_235.2.2.2.2.2.2.2.2.2
theorem gd_X12_lawThrough_252 : decode cX12_lawThrough 252 = .ok (.iload_n 1, 1) ∧ decode cX12_lawThrough 253 = .ok (.imul, 1) ∧ decode cX12_lawThrough 254 = .ok (.iconst 1, 1) ∧ decode cX12_lawThrough 255 = .ok (.iadd, 1) ∧ decode cX12_lawThrough 256 = .ok (.imul, 1) ∧ decode cX12_lawThrough 257 = .ok (.iload 7, 2) ∧ decode cX12_lawThrough 259 = .ok (.iadd, 1) ∧ decode cX12_lawThrough 260 = .ok (.baload, 1) ∧ decode cX12_lawThrough 261 = .ok (.bastore, 1) ∧ decode cX12_lawThrough 262 = .ok (.iinc 2 1, 3) := by decide +kernel
theorem dX12_lawThrough_252 : decode cX12_lawThrough 252 = .ok (.iload_n 1, 1) := gd_X12_lawThrough_252.1
theorem dX12_lawThrough_253 : decode cX12_lawThrough 253 = .ok (.imul, 1) := gd_X12_lawThrough_252.2.1
theorem dX12_lawThrough_254 : decode cX12_lawThrough 254 = .ok (.iconst 1, 1) := gd_X12_lawThrough_252.2.2.1
theorem dX12_lawThrough_255 : decode cX12_lawThrough 255 = .ok (.iadd, 1) := gd_X12_lawThrough_252.2.2.2.1
theorem dX12_lawThrough_256 : decode cX12_lawThrough 256 = .ok (.imul, 1) := gd_X12_lawThrough_252.2.2.2.2.1
theorem dX12_lawThrough_257 : decode cX12_lawThrough 257 = .ok (.iload 7, 2) := gd_X12_lawThrough_252.2.2.2.2.2.1
theorem dX12_lawThrough_259 : decode cX12_lawThrough 259 = .ok (.iadd, 1) := gd_X12_lawThrough_252.2.2.2.2.2.2.1
theorem dX12_lawThrough_260 : decode cX12_lawThrough 260 = .ok (.baload, 1) := gd_X12_lawThrough_252.2.2.2.2.2.2.2.1
theorem dX12_lawThrough_261 : decode cX12_lawThrough 261 = .ok (.bastore, 1) := gd_X12_lawThrough_252.2.2.2.2.2.2.2.2.1
theorem dX12_lawThrough_262 : decode cX12_lawThrough 262 = .ok (.iinc 2 1, 3) := gd_X12_lawThrough_252.2.2.2.2.2.2.2.2.2
theorem gd_X12_lawThrough_265 : decode cX12_lawThrough 265 = .ok (.iinc 7 1, 3) ∧ decode cX12_lawThrough 268 = .ok (.goto (-43), 3) ∧ decode cX12_lawThrough 271 = .ok (.iload_n 3, 1) ∧ decode cX12_lawThrough 272 = .ok (.iload 4, 2) ∧ decode cX12_lawThrough 274 = .ok (.iadd, 1) ∧ decode cX12_lawThrough 275 = .ok (.istore_n 3, 1) ∧ decode cX12_lawThrough 276 = .ok (.goto (-259), 3) ∧ decode cX12_lawThrough 279 = .ok (.iconst 0, 1) ∧ decode cX12_lawThrough 280 = .ok (.istore 6, 2) ∧ decode cX12_lawThrough 282 = .ok (.iload 6, 2) := by decide +kernel
theorem dX12_lawThrough_265 : decode cX12_lawThrough 265 = .ok (.iinc 7 1, 3) := gd_X12_lawThrough_265.1
theorem dX12_lawThrough_268 : decode cX12_lawThrough 268 = .ok (.goto (-43), 3) := gd_X12_lawThrough_265.2.1
theorem dX12_lawThrough_271 : decode cX12_lawThrough 271 = .ok (.iload_n 3, 1) := gd_X12_lawThrough_265.2.2.1
theorem dX12_lawThrough_272 : decode cX12_lawThrough 272 = .ok (.iload 4, 2) := gd_X12_lawThrough_265.2.2.2.1
theorem dX12_lawThrough_274 : decode cX12_lawThrough 274 = .ok (.iadd, 1) := gd_X12_lawThrough_265.2.2.2.2.1
theorem dX12_lawThrough_275 : decode cX12_lawThrough 275 = .ok (.istore_n 3, 1) := gd_X12_lawThrough_265.2.2.2.2.2.1
theorem dX12_lawThrough_276 : decode cX12_lawThrough 276 = .ok (.goto (-259), 3) := gd_X12_lawThrough_265.2.2.2.2.2.2.1
theorem dX12_lawThrough_279 : decode cX12_lawThrough 279 = .ok (.iconst 0, 1) := gd_X12_lawThrough_265.2.2.2.2.2.2.2.1
theorem dX12_lawThrough_280 : decode cX12_lawThrough 280 = .ok (.istore 6, 2) := gd_X12_lawThrough_265.2.2.2.2.2.2.2.2.1
theorem dX12_lawThrough_282 : decode cX12_lawThrough 282 = .ok (.iload 6, 2) := gd_X12_lawThrough_265.2.2.2.2.2.2.2.2.2
theorem gd_X12_lawThrough_284 : decode cX12_lawThrough 284 = .ok (.iload_n 2, 1) ∧ decode cX12_lawThrough 285 = .ok (.if_icmp .ge 23, 3) ∧ decode cX12_lawThrough 288 = .ok (.aload_n 0, 1) ∧ decode cX12_lawThrough 289 = .ok (.getfield 70, 3) ∧ decode cX12_lawThrough 292 = .ok (.iload 6, 2) ∧ decode cX12_lawThrough 294 = .ok (.aload_n 0, 1) ∧ decode cX12_lawThrough 295 = .ok (.getfield 73, 3) ∧ decode cX12_lawThrough 298 = .ok (.iload 6, 2) ∧ decode cX12_lawThrough 300 = .ok (.baload, 1) ∧ decode cX12_lawThrough 301 = .ok (.bastore, 1) := by decide +kernel
theorem dX12_lawThrough_284 : decode cX12_lawThrough 284 = .ok (.iload_n 2, 1) := gd_X12_lawThrough_284.1
theorem dX12_lawThrough_285 : decode cX12_lawThrough 285 = .ok (.if_icmp .ge 23, 3) := gd_X12_lawThrough_284.2.1
theorem dX12_lawThrough_288 : decode cX12_lawThrough 288 = .ok (.aload_n 0, 1) := gd_X12_lawThrough_284.2.2.1
theorem dX12_lawThrough_289 : decode cX12_lawThrough 289 = .ok (.getfield 70, 3) := gd_X12_lawThrough_284.2.2.2.1
theorem dX12_lawThrough_292 : decode cX12_lawThrough 292 = .ok (.iload 6, 2) := gd_X12_lawThrough_284.2.2.2.2.1
theorem dX12_lawThrough_294 : decode cX12_lawThrough 294 = .ok (.aload_n 0, 1) := gd_X12_lawThrough_284.2.2.2.2.2.1
theorem dX12_lawThrough_295 : decode cX12_lawThrough 295 = .ok (.getfield 73, 3) := gd_X12_lawThrough_284.2.2.2.2.2.2.1
theorem dX12_lawThrough_298 : decode cX12_lawThrough 298 = .ok (.iload 6, 2) := gd_X12_lawThrough_284.2.2.2.2.2.2.2.1
theorem dX12_lawThrough_300 : decode cX12_lawThrough 300 = .ok (.baload, 1) := gd_X12_lawThrough_284.2.2.2.2.2.2.2.2.1
theorem dX12_lawThrough_301 : decode cX12_lawThrough 301 = .ok (.bastore, 1) := gd_X12_lawThrough_284.2.2.2.2.2.2.2.2.2
theorem gd_X12_lawThrough_302 : decode cX12_lawThrough 302 = .ok (.iinc 6 1, 3) ∧ decode cX12_lawThrough 305 = .ok (.goto (-23), 3) ∧ decode cX12_lawThrough 308 = .ok (.aload_n 0, 1) ∧ decode cX12_lawThrough 309 = .ok (.iload_n 2, 1) ∧ decode cX12_lawThrough 310 = .ok (.putfield 253, 3) ∧ decode cX12_lawThrough 313 = .ok (.aload_n 0, 1) ∧ decode cX12_lawThrough 314 = .ok (.aload_n 0, 1) ∧ decode cX12_lawThrough 315 = .ok (.getfield 260, 3) ∧ decode cX12_lawThrough 318 = .ok (.ifCond .ne 16, 3) ∧ decode cX12_lawThrough 321 = .ok (.iload 5, 2) := by decide +kernel
theorem dX12_lawThrough_302 : decode cX12_lawThrough 302 = .ok (.iinc 6 1, 3) := gd_X12_lawThrough_302.1
theorem dX12_lawThrough_305 : decode cX12_lawThrough 305 = .ok (.goto (-23), 3) := gd_X12_lawThrough_302.2.1
theorem dX12_lawThrough_308 : decode cX12_lawThrough 308 = .ok (.aload_n 0, 1) := gd_X12_lawThrough_302.2.2.1
theorem dX12_lawThrough_309 : decode cX12_lawThrough 309 = .ok (.iload_n 2, 1) := gd_X12_lawThrough_302.2.2.2.1
theorem dX12_lawThrough_310 : decode cX12_lawThrough 310 = .ok (.putfield 253, 3) := gd_X12_lawThrough_302.2.2.2.2.1
theorem dX12_lawThrough_313 : decode cX12_lawThrough 313 = .ok (.aload_n 0, 1) := gd_X12_lawThrough_302.2.2.2.2.2.1
theorem dX12_lawThrough_314 : decode cX12_lawThrough 314 = .ok (.aload_n 0, 1) := gd_X12_lawThrough_302.2.2.2.2.2.2.1
theorem dX12_lawThrough_315 : decode cX12_lawThrough 315 = .ok (.getfield 260, 3) := gd_X12_lawThrough_302.2.2.2.2.2.2.2.1
theorem dX12_lawThrough_318 : decode cX12_lawThrough 318 = .ok (.ifCond .ne 16, 3) := gd_X12_lawThrough_302.2.2.2.2.2.2.2.2.1
theorem dX12_lawThrough_321 : decode cX12_lawThrough 321 = .ok (.iload 5, 2) := gd_X12_lawThrough_302.2.2.2.2.2.2.2.2.2
theorem gd_X12_lawThrough_323 : decode cX12_lawThrough 323 = .ok (.ifCond .eq 15, 3) ∧ decode cX12_lawThrough 326 = .ok (.iload_n 1, 1) ∧ decode cX12_lawThrough 327 = .ok (.aload_n 0, 1) ∧ decode cX12_lawThrough 328 = .ok (.getfield 263, 3) ∧ decode cX12_lawThrough 331 = .ok (.if_icmp .ne 7, 3) ∧ decode cX12_lawThrough 334 = .ok (.iconst 1, 1) ∧ decode cX12_lawThrough 335 = .ok (.goto 4, 3) ∧ decode cX12_lawThrough 338 = .ok (.iconst 0, 1) ∧ decode cX12_lawThrough 339 = .ok (.putfield 260, 3) ∧ decode cX12_lawThrough 342 = .ok (.return_, 1) := by decide +kernel
theorem dX12_lawThrough_323 : decode cX12_lawThrough 323 = .ok (.ifCond .eq 15, 3) := gd_X12_lawThrough_323.1
theorem dX12_lawThrough_326 : decode cX12_lawThrough 326 = .ok (.iload_n 1, 1) := gd_X12_lawThrough_323.2.1
theorem dX12_lawThrough_327 : decode cX12_lawThrough 327 = .ok (.aload_n 0, 1) := gd_X12_lawThrough_323.2.2.1
theorem dX12_lawThrough_328 : decode cX12_lawThrough 328 = .ok (.getfield 263, 3) := gd_X12_lawThrough_323.2.2.2.1
theorem dX12_lawThrough_331 : decode cX12_lawThrough 331 = .ok (.if_icmp .ne 7, 3) := gd_X12_lawThrough_323.2.2.2.2.1
theorem dX12_lawThrough_334 : decode cX12_lawThrough 334 = .ok (.iconst 1, 1) := gd_X12_lawThrough_323.2.2.2.2.2.1
theorem dX12_lawThrough_335 : decode cX12_lawThrough 335 = .ok (.goto 4, 3) := gd_X12_lawThrough_323.2.2.2.2.2.2.1
theorem dX12_lawThrough_338 : decode cX12_lawThrough 338 = .ok (.iconst 0, 1) := gd_X12_lawThrough_323.2.2.2.2.2.2.2.1
theorem dX12_lawThrough_339 : decode cX12_lawThrough 339 = .ok (.putfield 260, 3) := gd_X12_lawThrough_323.2.2.2.2.2.2.2.2.1
theorem dX12_lawThrough_342 : decode cX12_lawThrough 342 = .ok (.return_, 1) := gd_X12_lawThrough_323.2.2.2.2.2.2.2.2.2
theorem gd_X12_makeForm_0 : decode cX12_makeForm 0 = .ok (.iload_n 2, 1) ∧ decode cX12_makeForm 1 = .ok (.iconst (-1), 1) ∧ decode cX12_makeForm 2 = .ok (.if_icmp .ne 7, 3) ∧ decode cX12_makeForm 5 = .ok (.iconst 1, 1) ∧ decode cX12_makeForm 6 = .ok (.goto 9, 3) ∧ decode cX12_makeForm 9 = .ok (.aload_n 0, 1) ∧ decode cX12_makeForm 10 = .ok (.getfield 64, 3) ∧ decode cX12_makeForm 13 = .ok (.iload_n 2, 1) ∧ decode cX12_makeForm 14 = .ok (.iaload, 1) ∧ decode cX12_makeForm 15 = .ok (.istore_n 3, 1) := by decide +kernel
theorem dX12_makeForm_0 : decode cX12_makeForm 0 = .ok (.iload_n 2, 1) := gd_X12_makeForm_0.1
theorem dX12_makeForm_1 : decode cX12_makeForm 1 = .ok (.iconst (-1), 1) := gd_X12_makeForm_0.2.1
theorem dX12_makeForm_2 : decode cX12_makeForm 2 = .ok (.if_icmp .ne 7, 3) := gd_X12_makeForm_0.2.2.1
theorem dX12_makeForm_5 : decode cX12_makeForm 5 = .ok (.iconst 1, 1) := gd_X12_makeForm_0.2.2.2.1
theorem dX12_makeForm_6 : decode cX12_makeForm 6 = .ok (.goto 9, 3) := gd_X12_makeForm_0.2.2.2.2.1
theorem dX12_makeForm_9 : decode cX12_makeForm 9 = .ok (.aload_n 0, 1) := gd_X12_makeForm_0.2.2.2.2.2.1
theorem dX12_makeForm_10 : decode cX12_makeForm 10 = .ok (.getfield 64, 3) := gd_X12_makeForm_0.2.2.2.2.2.2.1
theorem dX12_makeForm_13 : decode cX12_makeForm 13 = .ok (.iload_n 2, 1) := gd_X12_makeForm_0.2.2.2.2.2.2.2.1
theorem dX12_makeForm_14 : decode cX12_makeForm 14 = .ok (.iaload, 1) := gd_X12_makeForm_0.2.2.2.2.2.2.2.2.1
theorem dX12_makeForm_15 : decode cX12_makeForm 15 = .ok (.istore_n 3, 1) := gd_X12_makeForm_0.2.2.2.2.2.2.2.2.2
theorem gd_X12_makeForm_16 : decode cX12_makeForm 16 = .ok (.iconst 0, 1) ∧ decode cX12_makeForm 17 = .ok (.istore 4, 2) ∧ decode cX12_makeForm 19 = .ok (.iconst 0, 1) ∧ decode cX12_makeForm 20 = .ok (.istore 5, 2) ∧ decode cX12_makeForm 22 = .ok (.iconst 1, 1) ∧ decode cX12_makeForm 23 = .ok (.istore 6, 2) ∧ decode cX12_makeForm 25 = .ok (.iconst 0, 1) ∧ decode cX12_makeForm 26 = .ok (.istore 7, 2) ∧ decode cX12_makeForm 28 = .ok (.iload 7, 2) ∧ decode cX12_makeForm 30 = .ok (.iload_n 3, 1) := by decide +kernel
theorem dX12_makeForm_16 : decode cX12_makeForm 16 = .ok (.iconst 0, 1) := gd_X12_makeForm_16.1
theorem dX12_makeForm_17 : decode cX12_makeForm 17 = .ok (.istore 4, 2) := gd_X12_makeForm_16.2.1
theorem dX12_makeForm_19 : decode cX12_makeForm 19 = .ok (.iconst 0, 1) := gd_X12_makeForm_16.2.2.1
theorem dX12_makeForm_20 : decode cX12_makeForm 20 = .ok (.istore 5, 2) := gd_X12_makeForm_16.2.2.2.1
theorem dX12_makeForm_22 : decode cX12_makeForm 22 = .ok (.iconst 1, 1) := gd_X12_makeForm_16.2.2.2.2.1
theorem dX12_makeForm_23 : decode cX12_makeForm 23 = .ok (.istore 6, 2) := gd_X12_makeForm_16.2.2.2.2.2.1
theorem dX12_makeForm_25 : decode cX12_makeForm 25 = .ok (.iconst 0, 1) := gd_X12_makeForm_16.2.2.2.2.2.2.1
theorem dX12_makeForm_26 : decode cX12_makeForm 26 = .ok (.istore 7, 2) := gd_X12_makeForm_16.2.2.2.2.2.2.2.1
theorem dX12_makeForm_28 : decode cX12_makeForm 28 = .ok (.iload 7, 2) := gd_X12_makeForm_16.2.2.2.2.2.2.2.2.1
theorem dX12_makeForm_30 : decode cX12_makeForm 30 = .ok (.iload_n 3, 1) := gd_X12_makeForm_16.2.2.2.2.2.2.2.2.2
theorem gd_X12_makeForm_31 : decode cX12_makeForm 31 = .ok (.if_icmp .ge 205, 3) ∧ decode cX12_makeForm 34 = .ok (.iload 6, 2) ∧ decode cX12_makeForm 36 = .ok (.ifCond .eq 200, 3) ∧ decode cX12_makeForm 39 = .ok (.iload_n 2, 1) ∧ decode cX12_makeForm 40 = .ok (.iconst (-1), 1) ∧ decode cX12_makeForm 41 = .ok (.if_icmp .ne 10, 3) ∧ decode cX12_makeForm 44 = .ok (.aload_n 0, 1) ∧ decode cX12_makeForm 45 = .ok (.getfield 244, 3) ∧ decode cX12_makeForm 48 = .ok (.goto 15, 3) ∧ decode cX12_makeForm 51 = .ok (.aload_n 0, 1) := by decide +kernel
theorem dX12_makeForm_31 : decode cX12_makeForm 31 = .ok (.if_icmp .ge 205, 3) := gd_X12_makeForm_31.1
theorem dX12_makeForm_34 : decode cX12_makeForm 34 = .ok (.iload 6, 2) := gd_X12_makeForm_31.2.1
theorem dX12_makeForm_36 : decode cX12_makeForm 36 = .ok (.ifCond .eq 200, 3) := gd_X12_makeForm_31.2.2.1
theorem dX12_makeForm_39 : decode cX12_makeForm 39 = .ok (.iload_n 2, 1) := gd_X12_makeForm_31.2.2.2.1
theorem dX12_makeForm_40 : decode cX12_makeForm 40 = .ok (.iconst (-1), 1) := gd_X12_makeForm_31.2.2.2.2.1
theorem dX12_makeForm_41 : decode cX12_makeForm 41 = .ok (.if_icmp .ne 10, 3) := gd_X12_makeForm_31.2.2.2.2.2.1
theorem dX12_makeForm_44 : decode cX12_makeForm 44 = .ok (.aload_n 0, 1) := gd_X12_makeForm_31.2.2.2.2.2.2.1
theorem dX12_makeForm_45 : decode cX12_makeForm 45 = .ok (.getfield 244, 3) := gd_X12_makeForm_31.2.2.2.2.2.2.2.1
theorem dX12_makeForm_48 : decode cX12_makeForm 48 = .ok (.goto 15, 3) := gd_X12_makeForm_31.2.2.2.2.2.2.2.2.1
theorem dX12_makeForm_51 : decode cX12_makeForm 51 = .ok (.aload_n 0, 1) := gd_X12_makeForm_31.2.2.2.2.2.2.2.2.2
theorem gd_X12_makeForm_52 : decode cX12_makeForm 52 = .ok (.getfield 61, 3) ∧ decode cX12_makeForm 55 = .ok (.bipush 24, 2) ∧ decode cX12_makeForm 57 = .ok (.iload_n 2, 1) ∧ decode cX12_makeForm 58 = .ok (.imul, 1) ∧ decode cX12_makeForm 59 = .ok (.iload 7, 2) ∧ decode cX12_makeForm 61 = .ok (.iadd, 1) ∧ decode cX12_makeForm 62 = .ok (.iaload, 1) ∧ decode cX12_makeForm 63 = .ok (.istore 8, 2) ∧ decode cX12_makeForm 65 = .ok (.iconst 0, 1) ∧ decode cX12_makeForm 66 = .ok (.istore 9, 2) := by decide +kernel
theorem dX12_makeForm_52 : decode cX12_makeForm 52 = .ok (.getfield 61, 3) := gd_X12_makeForm_52.1
theorem dX12_makeForm_55 : decode cX12_makeForm 55 = .ok (.bipush 24, 2) := gd_X12_makeForm_52.2.1
theorem dX12_makeForm_57 : decode cX12_makeForm 57 = .ok (.iload_n 2, 1) := gd_X12_makeForm_52.2.2.1
theorem dX12_makeForm_58 : decode cX12_makeForm 58 = .ok (.imul, 1) := gd_X12_makeForm_52.2.2.2.1
theorem dX12_makeForm_59 : decode cX12_makeForm 59 = .ok (.iload 7, 2) := gd_X12_makeForm_52.2.2.2.2.1
theorem dX12_makeForm_61 : decode cX12_makeForm 61 = .ok (.iadd, 1) := gd_X12_makeForm_52.2.2.2.2.2.1
theorem dX12_makeForm_62 : decode cX12_makeForm 62 = .ok (.iaload, 1) := gd_X12_makeForm_52.2.2.2.2.2.2.1
theorem dX12_makeForm_63 : decode cX12_makeForm 63 = .ok (.istore 8, 2) := gd_X12_makeForm_52.2.2.2.2.2.2.2.1
theorem dX12_makeForm_65 : decode cX12_makeForm 65 = .ok (.iconst 0, 1) := gd_X12_makeForm_52.2.2.2.2.2.2.2.2.1
theorem dX12_makeForm_66 : decode cX12_makeForm 66 = .ok (.istore 9, 2) := gd_X12_makeForm_52.2.2.2.2.2.2.2.2.2
theorem gd_X12_makeForm_68 : decode cX12_makeForm 68 = .ok (.iload 9, 2) ∧ decode cX12_makeForm 70 = .ok (.iload 8, 2) ∧ decode cX12_makeForm 72 = .ok (.if_icmp .ge 26, 3) ∧ decode cX12_makeForm 75 = .ok (.aload_n 0, 1) ∧ decode cX12_makeForm 76 = .ok (.getfield 70, 3) ∧ decode cX12_makeForm 79 = .ok (.iload 9, 2) ∧ decode cX12_makeForm 81 = .ok (.aload_n 0, 1) ∧ decode cX12_makeForm 82 = .ok (.getfield 55, 3) ∧ decode cX12_makeForm 85 = .ok (.iload 4, 2) ∧ decode cX12_makeForm 87 = .ok (.iload 9, 2) := by decide +kernel
theorem dX12_makeForm_68 : decode cX12_makeForm 68 = .ok (.iload 9, 2) := gd_X12_makeForm_68.1
theorem dX12_makeForm_70 : decode cX12_makeForm 70 = .ok (.iload 8, 2) := gd_X12_makeForm_68.2.1
theorem dX12_makeForm_72 : decode cX12_makeForm 72 = .ok (.if_icmp .ge 26, 3) := gd_X12_makeForm_68.2.2.1
theorem dX12_makeForm_75 : decode cX12_makeForm 75 = .ok (.aload_n 0, 1) := gd_X12_makeForm_68.2.2.2.1
theorem dX12_makeForm_76 : decode cX12_makeForm 76 = .ok (.getfield 70, 3) := gd_X12_makeForm_68.2.2.2.2.1
theorem dX12_makeForm_79 : decode cX12_makeForm 79 = .ok (.iload 9, 2) := gd_X12_makeForm_68.2.2.2.2.2.1
theorem dX12_makeForm_81 : decode cX12_makeForm 81 = .ok (.aload_n 0, 1) := gd_X12_makeForm_68.2.2.2.2.2.2.1
theorem dX12_makeForm_82 : decode cX12_makeForm 82 = .ok (.getfield 55, 3) := gd_X12_makeForm_68.2.2.2.2.2.2.2.1
theorem dX12_makeForm_85 : decode cX12_makeForm 85 = .ok (.iload 4, 2) := gd_X12_makeForm_68.2.2.2.2.2.2.2.2.1
theorem dX12_makeForm_87 : decode cX12_makeForm 87 = .ok (.iload 9, 2) := gd_X12_makeForm_68.2.2.2.2.2.2.2.2.2
theorem gd_X12_makeForm_89 : decode cX12_makeForm 89 = .ok (.iadd, 1) ∧ decode cX12_makeForm 90 = .ok (.baload, 1) ∧ decode cX12_makeForm 91 = .ok (.bastore, 1) ∧ decode cX12_makeForm 92 = .ok (.iinc 9 1, 3) ∧ decode cX12_makeForm 95 = .ok (.goto (-27), 3) ∧ decode cX12_makeForm 98 = .ok (.aload_n 0, 1) ∧ decode cX12_makeForm 99 = .ok (.iload 8, 2) ∧ decode cX12_makeForm 101 = .ok (.putfield 253, 3) ∧ decode cX12_makeForm 104 = .ok (.iload 4, 2) ∧ decode cX12_makeForm 106 = .ok (.iload 8, 2) := by decide +kernel
theorem dX12_makeForm_89 : decode cX12_makeForm 89 = .ok (.iadd, 1) := gd_X12_makeForm_89.1
theorem dX12_makeForm_90 : decode cX12_makeForm 90 = .ok (.baload, 1) := gd_X12_makeForm_89.2.1
theorem dX12_makeForm_91 : decode cX12_makeForm 91 = .ok (.bastore, 1) := gd_X12_makeForm_89.2.2.1
theorem dX12_makeForm_92 : decode cX12_makeForm 92 = .ok (.iinc 9 1, 3) := gd_X12_makeForm_89.2.2.2.1
theorem dX12_makeForm_95 : decode cX12_makeForm 95 = .ok (.goto (-27), 3) := gd_X12_makeForm_89.2.2.2.2.1
theorem dX12_makeForm_98 : decode cX12_makeForm 98 = .ok (.aload_n 0, 1) := gd_X12_makeForm_89.2.2.2.2.2.1
theorem dX12_makeForm_99 : decode cX12_makeForm 99 = .ok (.iload 8, 2) := gd_X12_makeForm_89.2.2.2.2.2.2.1
theorem dX12_makeForm_101 : decode cX12_makeForm 101 = .ok (.putfield 253, 3) := gd_X12_makeForm_89.2.2.2.2.2.2.2.1
theorem dX12_makeForm_104 : decode cX12_makeForm 104 = .ok (.iload 4, 2) := gd_X12_makeForm_89.2.2.2.2.2.2.2.2.1
theorem dX12_makeForm_106 : decode cX12_makeForm 106 = .ok (.iload 8, 2) := gd_X12_makeForm_89.2.2.2.2.2.2.2.2.2
theorem gd_X12_makeForm_108 : decode cX12_makeForm 108 = .ok (.iadd, 1) ∧ decode cX12_makeForm 109 = .ok (.istore 4, 2) ∧ decode cX12_makeForm 111 = .ok (.bipush 40, 2) ∧ decode cX12_makeForm 113 = .ok (.iload_n 1, 1) ∧ decode cX12_makeForm 114 = .ok (.imul, 1) ∧ decode cX12_makeForm 115 = .ok (.istore 9, 2) ∧ decode cX12_makeForm 117 = .ok (.iload 9, 2) ∧ decode cX12_makeForm 119 = .ok (.bipush 40, 2) ∧ decode cX12_makeForm 121 = .ok (.iload_n 1, 1) ∧ decode cX12_makeForm 122 = .ok (.imul, 1) := by decide +kernel
theorem dX12_makeForm_108 : decode cX12_makeForm 108 = .ok (.iadd, 1) := gd_X12_makeForm_108.1
theorem dX12_makeForm_109 : decode cX12_makeForm 109 = .ok (.istore 4, 2) := gd_X12_makeForm_108.2.1
theorem dX12_makeForm_111 : decode cX12_makeForm 111 = .ok (.bipush 40, 2) := gd_X12_makeForm_108.2.2.1
theorem dX12_makeForm_113 : decode cX12_makeForm 113 = .ok (.iload_n 1, 1) := gd_X12_makeForm_108.2.2.2.1
theorem dX12_makeForm_114 : decode cX12_makeForm 114 = .ok (.imul, 1) := gd_X12_makeForm_108.2.2.2.2.1
theorem dX12_makeForm_115 : decode cX12_makeForm 115 = .ok (.istore 9, 2) := gd_X12_makeForm_108.2.2.2.2.2.1
theorem dX12_makeForm_117 : decode cX12_makeForm 117 = .ok (.iload 9, 2) := gd_X12_makeForm_108.2.2.2.2.2.2.1
theorem dX12_makeForm_119 : decode cX12_makeForm 119 = .ok (.bipush 40, 2) := gd_X12_makeForm_108.2.2.2.2.2.2.2.1
theorem dX12_makeForm_121 : decode cX12_makeForm 121 = .ok (.iload_n 1, 1) := gd_X12_makeForm_108.2.2.2.2.2.2.2.2.1
theorem dX12_makeForm_122 : decode cX12_makeForm 122 = .ok (.imul, 1) := gd_X12_makeForm_108.2.2.2.2.2.2.2.2.2
theorem gd_X12_makeForm_123 : decode cX12_makeForm 123 = .ok (.aload_n 0, 1) ∧ decode cX12_makeForm 124 = .ok (.getfield 21, 3) ∧ decode cX12_makeForm 127 = .ok (.iload_n 1, 1) ∧ decode cX12_makeForm 128 = .ok (.iaload, 1) ∧ decode cX12_makeForm 129 = .ok (.iadd, 1) ∧ decode cX12_makeForm 130 = .ok (.if_icmp .ge 36, 3) ∧ decode cX12_makeForm 133 = .ok (.iload 6, 2) ∧ decode cX12_makeForm 135 = .ok (.ifCond .eq 31, 3) ∧ decode cX12_makeForm 138 = .ok (.aload_n 0, 1) ∧ decode cX12_makeForm 139 = .ok (.iload 9, 2) := by decide +kernel
theorem dX12_makeForm_123 : decode cX12_makeForm 123 = .ok (.aload_n 0, 1) := gd_X12_makeForm_123.1
theorem dX12_makeForm_124 : decode cX12_makeForm 124 = .ok (.getfield 21, 3) := gd_X12_makeForm_123.2.1
theorem dX12_makeForm_127 : decode cX12_makeForm 127 = .ok (.iload_n 1, 1) := gd_X12_makeForm_123.2.2.1
theorem dX12_makeForm_128 : decode cX12_makeForm 128 = .ok (.iaload, 1) := gd_X12_makeForm_123.2.2.2.1
theorem dX12_makeForm_129 : decode cX12_makeForm 129 = .ok (.iadd, 1) := gd_X12_makeForm_123.2.2.2.2.1
theorem dX12_makeForm_130 : decode cX12_makeForm 130 = .ok (.if_icmp .ge 36, 3) := gd_X12_makeForm_123.2.2.2.2.2.1
theorem dX12_makeForm_133 : decode cX12_makeForm 133 = .ok (.iload 6, 2) := gd_X12_makeForm_123.2.2.2.2.2.2.1
theorem dX12_makeForm_135 : decode cX12_makeForm 135 = .ok (.ifCond .eq 31, 3) := gd_X12_makeForm_123.2.2.2.2.2.2.2.1
theorem dX12_makeForm_138 : decode cX12_makeForm 138 = .ok (.aload_n 0, 1) := gd_X12_makeForm_123.2.2.2.2.2.2.2.2.1
theorem dX12_makeForm_139 : decode cX12_makeForm 139 = .ok (.iload 9, 2) := gd_X12_makeForm_123.2.2.2.2.2.2.2.2.2
theorem gd_X12_makeForm_141 : decode cX12_makeForm 141 = .ok (.invokevirtual 266, 3) ∧ decode cX12_makeForm 144 = .ok (.aload_n 0, 1) ∧ decode cX12_makeForm 145 = .ok (.getfield 253, 3) ∧ decode cX12_makeForm 148 = .ok (.bipush 24, 2) ∧ decode cX12_makeForm 150 = .ok (.if_icmp .gt 7, 3) ∧ decode cX12_makeForm 153 = .ok (.iconst 1, 1) ∧ decode cX12_makeForm 154 = .ok (.goto 4, 3) ∧ decode cX12_makeForm 157 = .ok (.iconst 0, 1) ∧ decode cX12_makeForm 158 = .ok (.istore 6, 2) ∧ decode cX12_makeForm 160 = .ok (.iinc 9 1, 3) := by decide +kernel
theorem dX12_makeForm_141 : decode cX12_makeForm 141 = .ok (.invokevirtual 266, 3) := gd_X12_makeForm_141.1
theorem dX12_makeForm_144 : decode cX12_makeForm 144 = .ok (.aload_n 0, 1) := gd_X12_makeForm_141.2.1
theorem dX12_makeForm_145 : decode cX12_makeForm 145 = .ok (.getfield 253, 3) := gd_X12_makeForm_141.2.2.1
theorem dX12_makeForm_148 : decode cX12_makeForm 148 = .ok (.bipush 24, 2) := gd_X12_makeForm_141.2.2.2.1
theorem dX12_makeForm_150 : decode cX12_makeForm 150 = .ok (.if_icmp .gt 7, 3) := gd_X12_makeForm_141.2.2.2.2.1
theorem dX12_makeForm_153 : decode cX12_makeForm 153 = .ok (.iconst 1, 1) := gd_X12_makeForm_141.2.2.2.2.2.1
theorem dX12_makeForm_154 : decode cX12_makeForm 154 = .ok (.goto 4, 3) := gd_X12_makeForm_141.2.2.2.2.2.2.1
theorem dX12_makeForm_157 : decode cX12_makeForm 157 = .ok (.iconst 0, 1) := gd_X12_makeForm_141.2.2.2.2.2.2.2.1
theorem dX12_makeForm_158 : decode cX12_makeForm 158 = .ok (.istore 6, 2) := gd_X12_makeForm_141.2.2.2.2.2.2.2.2.1
theorem dX12_makeForm_160 : decode cX12_makeForm 160 = .ok (.iinc 9 1, 3) := gd_X12_makeForm_141.2.2.2.2.2.2.2.2.2
theorem gd_X12_makeForm_163 : decode cX12_makeForm 163 = .ok (.goto (-46), 3) ∧ decode cX12_makeForm 166 = .ok (.iconst 0, 1) ∧ decode cX12_makeForm 167 = .ok (.istore 9, 2) ∧ decode cX12_makeForm 169 = .ok (.iload 9, 2) ∧ decode cX12_makeForm 171 = .ok (.aload_n 0, 1) ∧ decode cX12_makeForm 172 = .ok (.getfield 253, 3) ∧ decode cX12_makeForm 175 = .ok (.if_icmp .ge 46, 3) ∧ decode cX12_makeForm 178 = .ok (.iload 5, 2) ∧ decode cX12_makeForm 180 = .ok (.aload_n 0, 1) ∧ decode cX12_makeForm 181 = .ok (.getfield 253, 3) := by decide +kernel
theorem dX12_makeForm_163 : decode cX12_makeForm 163 = .ok (.goto (-46), 3) := gd_X12_makeForm_163.1
theorem dX12_makeForm_166 : decode cX12_makeForm 166 = .ok (.iconst 0, 1) := gd_X12_makeForm_163.2.1
theorem dX12_makeForm_167 : decode cX12_makeForm 167 = .ok (.istore 9, 2) := gd_X12_makeForm_163.2.2.1
theorem dX12_makeForm_169 : decode cX12_makeForm 169 = .ok (.iload 9, 2) := gd_X12_makeForm_163.2.2.2.1
theorem dX12_makeForm_171 : decode cX12_makeForm 171 = .ok (.aload_n 0, 1) := gd_X12_makeForm_163.2.2.2.2.1
theorem dX12_makeForm_172 : decode cX12_makeForm 172 = .ok (.getfield 253, 3) := gd_X12_makeForm_163.2.2.2.2.2.1
theorem dX12_makeForm_175 : decode cX12_makeForm 175 = .ok (.if_icmp .ge 46, 3) := gd_X12_makeForm_163.2.2.2.2.2.2.1
theorem dX12_makeForm_178 : decode cX12_makeForm 178 = .ok (.iload 5, 2) := gd_X12_makeForm_163.2.2.2.2.2.2.2.1
theorem dX12_makeForm_180 : decode cX12_makeForm 180 = .ok (.aload_n 0, 1) := gd_X12_makeForm_163.2.2.2.2.2.2.2.2.1
theorem dX12_makeForm_181 : decode cX12_makeForm 181 = .ok (.getfield 253, 3) := gd_X12_makeForm_163.2.2.2.2.2.2.2.2.2
theorem gd_X12_makeForm_184 : decode cX12_makeForm 184 = .ok (.iadd, 1) ∧ decode cX12_makeForm 185 = .ok (.bipush 24, 2) ∧ decode cX12_makeForm 187 = .ok (.if_icmp .gt 34, 3) ∧ decode cX12_makeForm 190 = .ok (.aload_n 0, 1) ∧ decode cX12_makeForm 191 = .ok (.getfield 76, 3) ∧ decode cX12_makeForm 194 = .ok (.bipush 24, 2) ∧ decode cX12_makeForm 196 = .ok (.aload_n 0, 1) ∧ decode cX12_makeForm 197 = .ok (.getfield 270, 3) ∧ decode cX12_makeForm 200 = .ok (.imul, 1) ∧ decode cX12_makeForm 201 = .ok (.iload 5, 2) := by decide +kernel
theorem dX12_makeForm_184 : decode cX12_makeForm 184 = .ok (.iadd, 1) := gd_X12_makeForm_184.1
theorem dX12_makeForm_185 : decode cX12_makeForm 185 = .ok (.bipush 24, 2) := gd_X12_makeForm_184.2.1
theorem dX12_makeForm_187 : decode cX12_makeForm 187 = .ok (.if_icmp .gt 34, 3) := gd_X12_makeForm_184.2.2.1
theorem dX12_makeForm_190 : decode cX12_makeForm 190 = .ok (.aload_n 0, 1) := gd_X12_makeForm_184.2.2.2.1
theorem dX12_makeForm_191 : decode cX12_makeForm 191 = .ok (.getfield 76, 3) := gd_X12_makeForm_184.2.2.2.2.1
theorem dX12_makeForm_194 : decode cX12_makeForm 194 = .ok (.bipush 24, 2) := gd_X12_makeForm_184.2.2.2.2.2.1
theorem dX12_makeForm_196 : decode cX12_makeForm 196 = .ok (.aload_n 0, 1) := gd_X12_makeForm_184.2.2.2.2.2.2.1
theorem dX12_makeForm_197 : decode cX12_makeForm 197 = .ok (.getfield 270, 3) := gd_X12_makeForm_184.2.2.2.2.2.2.2.1
theorem dX12_makeForm_200 : decode cX12_makeForm 200 = .ok (.imul, 1) := gd_X12_makeForm_184.2.2.2.2.2.2.2.2.1
theorem dX12_makeForm_201 : decode cX12_makeForm 201 = .ok (.iload 5, 2) := gd_X12_makeForm_184.2.2.2.2.2.2.2.2.2
theorem gd_X12_makeForm_203 : decode cX12_makeForm 203 = .ok (.iadd, 1) ∧ decode cX12_makeForm 204 = .ok (.iload 9, 2) ∧ decode cX12_makeForm 206 = .ok (.iadd, 1) ∧ decode cX12_makeForm 207 = .ok (.aload_n 0, 1) ∧ decode cX12_makeForm 208 = .ok (.getfield 70, 3) ∧ decode cX12_makeForm 211 = .ok (.iload 9, 2) ∧ decode cX12_makeForm 213 = .ok (.baload, 1) ∧ decode cX12_makeForm 214 = .ok (.bastore, 1) ∧ decode cX12_makeForm 215 = .ok (.iinc 9 1, 3) ∧ decode cX12_makeForm 218 = .ok (.goto (-49), 3) := by decide +kernel
theorem dX12_makeForm_203 : decode cX12_makeForm 203 = .ok (.iadd, 1) := gd_X12_makeForm_203.1
theorem dX12_makeForm_204 : decode cX12_makeForm 204 = .ok (.iload 9, 2) := gd_X12_makeForm_203.2.1
theorem dX12_makeForm_206 : decode cX12_makeForm 206 = .ok (.iadd, 1) := gd_X12_makeForm_203.2.2.1
theorem dX12_makeForm_207 : decode cX12_makeForm 207 = .ok (.aload_n 0, 1) := gd_X12_makeForm_203.2.2.2.1
theorem dX12_makeForm_208 : decode cX12_makeForm 208 = .ok (.getfield 70, 3) := gd_X12_makeForm_203.2.2.2.2.1
theorem dX12_makeForm_211 : decode cX12_makeForm 211 = .ok (.iload 9, 2) := gd_X12_makeForm_203.2.2.2.2.2.1
theorem dX12_makeForm_213 : decode cX12_makeForm 213 = .ok (.baload, 1) := gd_X12_makeForm_203.2.2.2.2.2.2.1
theorem dX12_makeForm_214 : decode cX12_makeForm 214 = .ok (.bastore, 1) := gd_X12_makeForm_203.2.2.2.2.2.2.2.1
theorem dX12_makeForm_215 : decode cX12_makeForm 215 = .ok (.iinc 9 1, 3) := gd_X12_makeForm_203.2.2.2.2.2.2.2.2.1
theorem dX12_makeForm_218 : decode cX12_makeForm 218 = .ok (.goto (-49), 3) := gd_X12_makeForm_203.2.2.2.2.2.2.2.2.2
theorem gd_X12_makeForm_221 : decode cX12_makeForm 221 = .ok (.iload 5, 2) ∧ decode cX12_makeForm 223 = .ok (.aload_n 0, 1) ∧ decode cX12_makeForm 224 = .ok (.getfield 253, 3) ∧ decode cX12_makeForm 227 = .ok (.iadd, 1) ∧ decode cX12_makeForm 228 = .ok (.istore 5, 2) ∧ decode cX12_makeForm 230 = .ok (.iinc 7 1, 3) ∧ decode cX12_makeForm 233 = .ok (.goto (-205), 3) ∧ decode cX12_makeForm 236 = .ok (.iload 6, 2) ∧ decode cX12_makeForm 238 = .ok (.ifCond .eq 15, 3) ∧ decode cX12_makeForm 241 = .ok (.iload 5, 2) := by decide +kernel
theorem dX12_makeForm_221 : decode cX12_makeForm 221 = .ok (.iload 5, 2) := gd_X12_makeForm_221.1
theorem dX12_makeForm_223 : decode cX12_makeForm 223 = .ok (.aload_n 0, 1) := gd_X12_makeForm_221.2.1
theorem dX12_makeForm_224 : decode cX12_makeForm 224 = .ok (.getfield 253, 3) := gd_X12_makeForm_221.2.2.1
theorem dX12_makeForm_227 : decode cX12_makeForm 227 = .ok (.iadd, 1) := gd_X12_makeForm_221.2.2.2.1
theorem dX12_makeForm_228 : decode cX12_makeForm 228 = .ok (.istore 5, 2) := gd_X12_makeForm_221.2.2.2.2.1
theorem dX12_makeForm_230 : decode cX12_makeForm 230 = .ok (.iinc 7 1, 3) := gd_X12_makeForm_221.2.2.2.2.2.1
theorem dX12_makeForm_233 : decode cX12_makeForm 233 = .ok (.goto (-205), 3) := gd_X12_makeForm_221.2.2.2.2.2.2.1
theorem dX12_makeForm_236 : decode cX12_makeForm 236 = .ok (.iload 6, 2) := gd_X12_makeForm_221.2.2.2.2.2.2.2.1
theorem dX12_makeForm_238 : decode cX12_makeForm 238 = .ok (.ifCond .eq 15, 3) := gd_X12_makeForm_221.2.2.2.2.2.2.2.2.1
theorem dX12_makeForm_241 : decode cX12_makeForm 241 = .ok (.iload 5, 2) := gd_X12_makeForm_221.2.2.2.2.2.2.2.2.2
theorem gd_X12_makeForm_243 : decode cX12_makeForm 243 = .ok (.ifCond .eq 10, 3) ∧ decode cX12_makeForm 246 = .ok (.iload 5, 2) ∧ decode cX12_makeForm 248 = .ok (.bipush 24, 2) ∧ decode cX12_makeForm 250 = .ok (.if_icmp .le 4, 3) ∧ decode cX12_makeForm 253 = .ok (.return_, 1) ∧ decode cX12_makeForm 254 = .ok (.aload_n 0, 1) ∧ decode cX12_makeForm 255 = .ok (.getfield 79, 3) ∧ decode cX12_makeForm 258 = .ok (.aload_n 0, 1) ∧ decode cX12_makeForm 259 = .ok (.getfield 270, 3) ∧ decode cX12_makeForm 262 = .ok (.iload 5, 2) := by decide +kernel
theorem dX12_makeForm_243 : decode cX12_makeForm 243 = .ok (.ifCond .eq 10, 3) := gd_X12_makeForm_243.1
theorem dX12_makeForm_246 : decode cX12_makeForm 246 = .ok (.iload 5, 2) := gd_X12_makeForm_243.2.1
theorem dX12_makeForm_248 : decode cX12_makeForm 248 = .ok (.bipush 24, 2) := gd_X12_makeForm_243.2.2.1
theorem dX12_makeForm_250 : decode cX12_makeForm 250 = .ok (.if_icmp .le 4, 3) := gd_X12_makeForm_243.2.2.2.1
theorem dX12_makeForm_253 : decode cX12_makeForm 253 = .ok (.return_, 1) := gd_X12_makeForm_243.2.2.2.2.1
theorem dX12_makeForm_254 : decode cX12_makeForm 254 = .ok (.aload_n 0, 1) := gd_X12_makeForm_243.2.2.2.2.2.1
theorem dX12_makeForm_255 : decode cX12_makeForm 255 = .ok (.getfield 79, 3) := gd_X12_makeForm_243.2.2.2.2.2.2.1
theorem dX12_makeForm_258 : decode cX12_makeForm 258 = .ok (.aload_n 0, 1) := gd_X12_makeForm_243.2.2.2.2.2.2.2.1
theorem dX12_makeForm_259 : decode cX12_makeForm 259 = .ok (.getfield 270, 3) := gd_X12_makeForm_243.2.2.2.2.2.2.2.2.1
theorem dX12_makeForm_262 : decode cX12_makeForm 262 = .ok (.iload 5, 2) := gd_X12_makeForm_243.2.2.2.2.2.2.2.2.2
theorem gd_X12_makeForm_264 : decode cX12_makeForm 264 = .ok (.iastore, 1) ∧ decode cX12_makeForm 265 = .ok (.iconst 0, 1) ∧ decode cX12_makeForm 266 = .ok (.istore 7, 2) ∧ decode cX12_makeForm 268 = .ok (.iload 7, 2) ∧ decode cX12_makeForm 270 = .ok (.aload_n 0, 1) ∧ decode cX12_makeForm 271 = .ok (.getfield 270, 3) ∧ decode cX12_makeForm 274 = .ok (.if_icmp .ge 45, 3) ∧ decode cX12_makeForm 277 = .ok (.aload_n 0, 1) ∧ decode cX12_makeForm 278 = .ok (.getfield 76, 3) ∧ decode cX12_makeForm 281 = .ok (.bipush 24, 2) := by decide +kernel
theorem dX12_makeForm_264 : decode cX12_makeForm 264 = .ok (.iastore, 1) := gd_X12_makeForm_264.1
theorem dX12_makeForm_265 : decode cX12_makeForm 265 = .ok (.iconst 0, 1) := gd_X12_makeForm_264.2.1
theorem dX12_makeForm_266 : decode cX12_makeForm 266 = .ok (.istore 7, 2) := gd_X12_makeForm_264.2.2.1
theorem dX12_makeForm_268 : decode cX12_makeForm 268 = .ok (.iload 7, 2) := gd_X12_makeForm_264.2.2.2.1
theorem dX12_makeForm_270 : decode cX12_makeForm 270 = .ok (.aload_n 0, 1) := gd_X12_makeForm_264.2.2.2.2.1
theorem dX12_makeForm_271 : decode cX12_makeForm 271 = .ok (.getfield 270, 3) := gd_X12_makeForm_264.2.2.2.2.2.1
theorem dX12_makeForm_274 : decode cX12_makeForm 274 = .ok (.if_icmp .ge 45, 3) := gd_X12_makeForm_264.2.2.2.2.2.2.1
theorem dX12_makeForm_277 : decode cX12_makeForm 277 = .ok (.aload_n 0, 1) := gd_X12_makeForm_264.2.2.2.2.2.2.2.1
theorem dX12_makeForm_278 : decode cX12_makeForm 278 = .ok (.getfield 76, 3) := gd_X12_makeForm_264.2.2.2.2.2.2.2.2.1
theorem dX12_makeForm_281 : decode cX12_makeForm 281 = .ok (.bipush 24, 2) := gd_X12_makeForm_264.2.2.2.2.2.2.2.2.2
theorem gd_X12_makeForm_283 : decode cX12_makeForm 283 = .ok (.iload 7, 2) ∧ decode cX12_makeForm 285 = .ok (.imul, 1) ∧ decode cX12_makeForm 286 = .ok (.aload_n 0, 1) ∧ decode cX12_makeForm 287 = .ok (.getfield 79, 3) ∧ decode cX12_makeForm 290 = .ok (.iload 7, 2) ∧ decode cX12_makeForm 292 = .ok (.iaload, 1) ∧ decode cX12_makeForm 293 = .ok (.aload_n 0, 1) ∧ decode cX12_makeForm 294 = .ok (.getfield 76, 3) ∧ decode cX12_makeForm 297 = .ok (.bipush 24, 2) ∧ decode cX12_makeForm 299 = .ok (.aload_n 0, 1) := by decide +kernel
theorem dX12_makeForm_283 : decode cX12_makeForm 283 = .ok (.iload 7, 2) := gd_X12_makeForm_283.1
theorem dX12_makeForm_285 : decode cX12_makeForm 285 = .ok (.imul, 1) := gd_X12_makeForm_283.2.1
theorem dX12_makeForm_286 : decode cX12_makeForm 286 = .ok (.aload_n 0, 1) := gd_X12_makeForm_283.2.2.1
theorem dX12_makeForm_287 : decode cX12_makeForm 287 = .ok (.getfield 79, 3) := gd_X12_makeForm_283.2.2.2.1
theorem dX12_makeForm_290 : decode cX12_makeForm 290 = .ok (.iload 7, 2) := gd_X12_makeForm_283.2.2.2.2.1
theorem dX12_makeForm_292 : decode cX12_makeForm 292 = .ok (.iaload, 1) := gd_X12_makeForm_283.2.2.2.2.2.1
theorem dX12_makeForm_293 : decode cX12_makeForm 293 = .ok (.aload_n 0, 1) := gd_X12_makeForm_283.2.2.2.2.2.2.1
theorem dX12_makeForm_294 : decode cX12_makeForm 294 = .ok (.getfield 76, 3) := gd_X12_makeForm_283.2.2.2.2.2.2.2.1
theorem dX12_makeForm_297 : decode cX12_makeForm 297 = .ok (.bipush 24, 2) := gd_X12_makeForm_283.2.2.2.2.2.2.2.2.1
theorem dX12_makeForm_299 : decode cX12_makeForm 299 = .ok (.aload_n 0, 1) := gd_X12_makeForm_283.2.2.2.2.2.2.2.2.2
theorem gd_X12_makeForm_300 : decode cX12_makeForm 300 = .ok (.getfield 270, 3) ∧ decode cX12_makeForm 303 = .ok (.imul, 1) ∧ decode cX12_makeForm 304 = .ok (.iload 5, 2) ∧ decode cX12_makeForm 306 = .ok (.invokestatic 273, 3) ∧ decode cX12_makeForm 309 = .ok (.ifCond .eq 4, 3) ∧ decode cX12_makeForm 312 = .ok (.return_, 1) ∧ decode cX12_makeForm 313 = .ok (.iinc 7 1, 3) ∧ decode cX12_makeForm 316 = .ok (.goto (-48), 3) ∧ decode cX12_makeForm 319 = .ok (.aload_n 0, 1) ∧ decode cX12_makeForm 320 = .ok (.dup, 1) := by decide +kernel
theorem dX12_makeForm_300 : decode cX12_makeForm 300 = .ok (.getfield 270, 3) := gd_X12_makeForm_300.1
theorem dX12_makeForm_303 : decode cX12_makeForm 303 = .ok (.imul, 1) := gd_X12_makeForm_300.2.1
theorem dX12_makeForm_304 : decode cX12_makeForm 304 = .ok (.iload 5, 2) := gd_X12_makeForm_300.2.2.1
theorem dX12_makeForm_306 : decode cX12_makeForm 306 = .ok (.invokestatic 273, 3) := gd_X12_makeForm_300.2.2.2.1
theorem dX12_makeForm_309 : decode cX12_makeForm 309 = .ok (.ifCond .eq 4, 3) := gd_X12_makeForm_300.2.2.2.2.1
theorem dX12_makeForm_312 : decode cX12_makeForm 312 = .ok (.return_, 1) := gd_X12_makeForm_300.2.2.2.2.2.1
theorem dX12_makeForm_313 : decode cX12_makeForm 313 = .ok (.iinc 7 1, 3) := gd_X12_makeForm_300.2.2.2.2.2.2.1
theorem dX12_makeForm_316 : decode cX12_makeForm 316 = .ok (.goto (-48), 3) := gd_X12_makeForm_300.2.2.2.2.2.2.2.1
theorem dX12_makeForm_319 : decode cX12_makeForm 319 = .ok (.aload_n 0, 1) := gd_X12_makeForm_300.2.2.2.2.2.2.2.2.1
theorem dX12_makeForm_320 : decode cX12_makeForm 320 = .ok (.dup, 1) := gd_X12_makeForm_300.2.2.2.2.2.2.2.2.2
theorem gd_X12_makeForm_321 : decode cX12_makeForm 321 = .ok (.getfield 270, 3) ∧ decode cX12_makeForm 324 = .ok (.iconst 1, 1) ∧ decode cX12_makeForm 325 = .ok (.iadd, 1) ∧ decode cX12_makeForm 326 = .ok (.putfield 270, 3) ∧ decode cX12_makeForm 329 = .ok (.return_, 1) ∧ decode cX12_turnBy 0 = .ok (.aload_n 0, 1) ∧ decode cX12_turnBy 1 = .ok (.iconst 0, 1) ∧ decode cX12_turnBy 2 = .ok (.putfield 270, 3) ∧ decode cX12_turnBy 5 = .ok (.aload_n 0, 1) ∧ decode cX12_turnBy 6 = .ok (.iload_n 1, 1) := by decide +kernel
theorem dX12_makeForm_321 : decode cX12_makeForm 321 = .ok (.getfield 270, 3) := gd_X12_makeForm_321.1
theorem dX12_makeForm_324 : decode cX12_makeForm 324 = .ok (.iconst 1, 1) := gd_X12_makeForm_321.2.1
theorem dX12_makeForm_325 : decode cX12_makeForm 325 = .ok (.iadd, 1) := gd_X12_makeForm_321.2.2.1
theorem dX12_makeForm_326 : decode cX12_makeForm 326 = .ok (.putfield 270, 3) := gd_X12_makeForm_321.2.2.2.1
theorem dX12_makeForm_329 : decode cX12_makeForm 329 = .ok (.return_, 1) := gd_X12_makeForm_321.2.2.2.2.1
theorem dX12_turnBy_0 : decode cX12_turnBy 0 = .ok (.aload_n 0, 1) := gd_X12_makeForm_321.2.2.2.2.2.1
theorem dX12_turnBy_1 : decode cX12_turnBy 1 = .ok (.iconst 0, 1) := gd_X12_makeForm_321.2.2.2.2.2.2.1
theorem dX12_turnBy_2 : decode cX12_turnBy 2 = .ok (.putfield 270, 3) := gd_X12_makeForm_321.2.2.2.2.2.2.2.1
theorem dX12_turnBy_5 : decode cX12_turnBy 5 = .ok (.aload_n 0, 1) := gd_X12_makeForm_321.2.2.2.2.2.2.2.2.1
theorem dX12_turnBy_6 : decode cX12_turnBy 6 = .ok (.iload_n 1, 1) := gd_X12_makeForm_321.2.2.2.2.2.2.2.2.2
theorem gd_X12_turnBy_7 : decode cX12_turnBy 7 = .ok (.invokevirtual 277, 3) ∧ decode cX12_turnBy 10 = .ok (.istore_n 2, 1) ∧ decode cX12_turnBy 11 = .ok (.iload_n 2, 1) ∧ decode cX12_turnBy 12 = .ok (.iconst (-1), 1) ∧ decode cX12_turnBy 13 = .ok (.if_icmp .ne 44, 3) ∧ decode cX12_turnBy 16 = .ok (.aload_n 0, 1) ∧ decode cX12_turnBy 17 = .ok (.iload_n 1, 1) ∧ decode cX12_turnBy 18 = .ok (.invokevirtual 280, 3) ∧ decode cX12_turnBy 21 = .ok (.aload_n 0, 1) ∧ decode cX12_turnBy 22 = .ok (.getfield 241, 3) := by decide +kernel
theorem dX12_turnBy_7 : decode cX12_turnBy 7 = .ok (.invokevirtual 277, 3) := gd_X12_turnBy_7.1
theorem dX12_turnBy_10 : decode cX12_turnBy 10 = .ok (.istore_n 2, 1) := gd_X12_turnBy_7.2.1
theorem dX12_turnBy_11 : decode cX12_turnBy 11 = .ok (.iload_n 2, 1) := gd_X12_turnBy_7.2.2.1
theorem dX12_turnBy_12 : decode cX12_turnBy 12 = .ok (.iconst (-1), 1) := gd_X12_turnBy_7.2.2.2.1
theorem dX12_turnBy_13 : decode cX12_turnBy 13 = .ok (.if_icmp .ne 44, 3) := gd_X12_turnBy_7.2.2.2.2.1
theorem dX12_turnBy_16 : decode cX12_turnBy 16 = .ok (.aload_n 0, 1) := gd_X12_turnBy_7.2.2.2.2.2.1
theorem dX12_turnBy_17 : decode cX12_turnBy 17 = .ok (.iload_n 1, 1) := gd_X12_turnBy_7.2.2.2.2.2.2.1
theorem dX12_turnBy_18 : decode cX12_turnBy 18 = .ok (.invokevirtual 280, 3) := gd_X12_turnBy_7.2.2.2.2.2.2.2.1
theorem dX12_turnBy_21 : decode cX12_turnBy 21 = .ok (.aload_n 0, 1) := gd_X12_turnBy_7.2.2.2.2.2.2.2.2.1
theorem dX12_turnBy_22 : decode cX12_turnBy 22 = .ok (.getfield 241, 3) := gd_X12_turnBy_7.2.2.2.2.2.2.2.2.2
theorem gd_X12_turnBy_25 : decode cX12_turnBy 25 = .ok (.ifCond .ne 9, 3) ∧ decode cX12_turnBy 28 = .ok (.aload_n 0, 1) ∧ decode cX12_turnBy 29 = .ok (.iload_n 1, 1) ∧ decode cX12_turnBy 30 = .ok (.iconst (-1), 1) ∧ decode cX12_turnBy 31 = .ok (.invokevirtual 283, 3) ∧ decode cX12_turnBy 34 = .ok (.iconst 0, 1) ∧ decode cX12_turnBy 35 = .ok (.istore_n 3, 1) ∧ decode cX12_turnBy 36 = .ok (.iload_n 3, 1) ∧ decode cX12_turnBy 37 = .ok (.aload_n 0, 1) ∧ decode cX12_turnBy 38 = .ok (.getfield 241, 3) := by decide +kernel
theorem dX12_turnBy_25 : decode cX12_turnBy 25 = .ok (.ifCond .ne 9, 3) := gd_X12_turnBy_25.1
theorem dX12_turnBy_28 : decode cX12_turnBy 28 = .ok (.aload_n 0, 1) := gd_X12_turnBy_25.2.1
theorem dX12_turnBy_29 : decode cX12_turnBy 29 = .ok (.iload_n 1, 1) := gd_X12_turnBy_25.2.2.1
theorem dX12_turnBy_30 : decode cX12_turnBy 30 = .ok (.iconst (-1), 1) := gd_X12_turnBy_25.2.2.2.1
theorem dX12_turnBy_31 : decode cX12_turnBy 31 = .ok (.invokevirtual 283, 3) := gd_X12_turnBy_25.2.2.2.2.1
theorem dX12_turnBy_34 : decode cX12_turnBy 34 = .ok (.iconst 0, 1) := gd_X12_turnBy_25.2.2.2.2.2.1
theorem dX12_turnBy_35 : decode cX12_turnBy 35 = .ok (.istore_n 3, 1) := gd_X12_turnBy_25.2.2.2.2.2.2.1
theorem dX12_turnBy_36 : decode cX12_turnBy 36 = .ok (.iload_n 3, 1) := gd_X12_turnBy_25.2.2.2.2.2.2.2.1
theorem dX12_turnBy_37 : decode cX12_turnBy 37 = .ok (.aload_n 0, 1) := gd_X12_turnBy_25.2.2.2.2.2.2.2.2.1
theorem dX12_turnBy_38 : decode cX12_turnBy 38 = .ok (.getfield 241, 3) := gd_X12_turnBy_25.2.2.2.2.2.2.2.2.2
theorem gd_X12_turnBy_41 : decode cX12_turnBy 41 = .ok (.if_icmp .ge 15, 3) ∧ decode cX12_turnBy 44 = .ok (.aload_n 0, 1) ∧ decode cX12_turnBy 45 = .ok (.iload_n 1, 1) ∧ decode cX12_turnBy 46 = .ok (.iload_n 3, 1) ∧ decode cX12_turnBy 47 = .ok (.invokevirtual 283, 3) ∧ decode cX12_turnBy 50 = .ok (.iinc 3 1, 3) ∧ decode cX12_turnBy 53 = .ok (.goto (-17), 3) ∧ decode cX12_turnBy 56 = .ok (.return_, 1) ∧ decode cX12_turnBy 57 = .ok (.aload_n 0, 1) ∧ decode cX12_turnBy 58 = .ok (.getfield 52, 3) := by decide +kernel
theorem dX12_turnBy_41 : decode cX12_turnBy 41 = .ok (.if_icmp .ge 15, 3) := gd_X12_turnBy_41.1
theorem dX12_turnBy_44 : decode cX12_turnBy 44 = .ok (.aload_n 0, 1) := gd_X12_turnBy_41.2.1
theorem dX12_turnBy_45 : decode cX12_turnBy 45 = .ok (.iload_n 1, 1) := gd_X12_turnBy_41.2.2.1
theorem dX12_turnBy_46 : decode cX12_turnBy 46 = .ok (.iload_n 3, 1) := gd_X12_turnBy_41.2.2.2.1
theorem dX12_turnBy_47 : decode cX12_turnBy 47 = .ok (.invokevirtual 283, 3) := gd_X12_turnBy_41.2.2.2.2.1
theorem dX12_turnBy_50 : decode cX12_turnBy 50 = .ok (.iinc 3 1, 3) := gd_X12_turnBy_41.2.2.2.2.2.1
theorem dX12_turnBy_53 : decode cX12_turnBy 53 = .ok (.goto (-17), 3) := gd_X12_turnBy_41.2.2.2.2.2.2.1
theorem dX12_turnBy_56 : decode cX12_turnBy 56 = .ok (.return_, 1) := gd_X12_turnBy_41.2.2.2.2.2.2.2.1
theorem dX12_turnBy_57 : decode cX12_turnBy 57 = .ok (.aload_n 0, 1) := gd_X12_turnBy_41.2.2.2.2.2.2.2.2.1
theorem dX12_turnBy_58 : decode cX12_turnBy 58 = .ok (.getfield 52, 3) := gd_X12_turnBy_41.2.2.2.2.2.2.2.2.2
theorem gd_X12_turnBy_61 : decode cX12_turnBy 61 = .ok (.iconst 2, 1) ∧ decode cX12_turnBy 62 = .ok (.iload_n 2, 1) ∧ decode cX12_turnBy 63 = .ok (.imul, 1) ∧ decode cX12_turnBy 64 = .ok (.iconst 1, 1) ∧ decode cX12_turnBy 65 = .ok (.iadd, 1) ∧ decode cX12_turnBy 66 = .ok (.iaload, 1) ∧ decode cX12_turnBy 67 = .ok (.iconst (-1), 1) ∧ decode cX12_turnBy 68 = .ok (.if_icmp .ne 7, 3) ∧ decode cX12_turnBy 71 = .ok (.iconst 1, 1) ∧ decode cX12_turnBy 72 = .ok (.goto 4, 3) := by decide +kernel
theorem dX12_turnBy_61 : decode cX12_turnBy 61 = .ok (.iconst 2, 1) := gd_X12_turnBy_61.1
theorem dX12_turnBy_62 : decode cX12_turnBy 62 = .ok (.iload_n 2, 1) := gd_X12_turnBy_61.2.1
theorem dX12_turnBy_63 : decode cX12_turnBy 63 = .ok (.imul, 1) := gd_X12_turnBy_61.2.2.1
theorem dX12_turnBy_64 : decode cX12_turnBy 64 = .ok (.iconst 1, 1) := gd_X12_turnBy_61.2.2.2.1
theorem dX12_turnBy_65 : decode cX12_turnBy 65 = .ok (.iadd, 1) := gd_X12_turnBy_61.2.2.2.2.1
theorem dX12_turnBy_66 : decode cX12_turnBy 66 = .ok (.iaload, 1) := gd_X12_turnBy_61.2.2.2.2.2.1
theorem dX12_turnBy_67 : decode cX12_turnBy 67 = .ok (.iconst (-1), 1) := gd_X12_turnBy_61.2.2.2.2.2.2.1
theorem dX12_turnBy_68 : decode cX12_turnBy 68 = .ok (.if_icmp .ne 7, 3) := gd_X12_turnBy_61.2.2.2.2.2.2.2.1
theorem dX12_turnBy_71 : decode cX12_turnBy 71 = .ok (.iconst 1, 1) := gd_X12_turnBy_61.2.2.2.2.2.2.2.2.1
theorem dX12_turnBy_72 : decode cX12_turnBy 72 = .ok (.goto 4, 3) := gd_X12_turnBy_61.2.2.2.2.2.2.2.2.2
theorem gd_X12_turnBy_75 : decode cX12_turnBy 75 = .ok (.iconst 0, 1) ∧ decode cX12_turnBy 76 = .ok (.istore_n 3, 1) ∧ decode cX12_turnBy 77 = .ok (.iload_n 3, 1) ∧ decode cX12_turnBy 78 = .ok (.ifCond .eq 10, 3) ∧ decode cX12_turnBy 81 = .ok (.aload_n 0, 1) ∧ decode cX12_turnBy 82 = .ok (.getfield 244, 3) ∧ decode cX12_turnBy 85 = .ok (.goto 13, 3) ∧ decode cX12_turnBy 88 = .ok (.aload_n 0, 1) ∧ decode cX12_turnBy 89 = .ok (.getfield 52, 3) ∧ decode cX12_turnBy 92 = .ok (.iconst 2, 1) := by decide +kernel
theorem dX12_turnBy_75 : decode cX12_turnBy 75 = .ok (.iconst 0, 1) := gd_X12_turnBy_75.1
theorem dX12_turnBy_76 : decode cX12_turnBy 76 = .ok (.istore_n 3, 1) := gd_X12_turnBy_75.2.1
theorem dX12_turnBy_77 : decode cX12_turnBy 77 = .ok (.iload_n 3, 1) := gd_X12_turnBy_75.2.2.1
theorem dX12_turnBy_78 : decode cX12_turnBy 78 = .ok (.ifCond .eq 10, 3) := gd_X12_turnBy_75.2.2.2.1
theorem dX12_turnBy_81 : decode cX12_turnBy 81 = .ok (.aload_n 0, 1) := gd_X12_turnBy_75.2.2.2.2.1
theorem dX12_turnBy_82 : decode cX12_turnBy 82 = .ok (.getfield 244, 3) := gd_X12_turnBy_75.2.2.2.2.2.1
theorem dX12_turnBy_85 : decode cX12_turnBy 85 = .ok (.goto 13, 3) := gd_X12_turnBy_75.2.2.2.2.2.2.1
theorem dX12_turnBy_88 : decode cX12_turnBy 88 = .ok (.aload_n 0, 1) := gd_X12_turnBy_75.2.2.2.2.2.2.2.1
theorem dX12_turnBy_89 : decode cX12_turnBy 89 = .ok (.getfield 52, 3) := gd_X12_turnBy_75.2.2.2.2.2.2.2.2.1
theorem dX12_turnBy_92 : decode cX12_turnBy 92 = .ok (.iconst 2, 1) := gd_X12_turnBy_75.2.2.2.2.2.2.2.2.2
theorem gd_X12_turnBy_93 : decode cX12_turnBy 93 = .ok (.iload_n 2, 1) ∧ decode cX12_turnBy 94 = .ok (.imul, 1) ∧ decode cX12_turnBy 95 = .ok (.iconst 1, 1) ∧ decode cX12_turnBy 96 = .ok (.iadd, 1) ∧ decode cX12_turnBy 97 = .ok (.iaload, 1) ∧ decode cX12_turnBy 98 = .ok (.istore 4, 2) ∧ decode cX12_turnBy 100 = .ok (.iconst 0, 1) ∧ decode cX12_turnBy 101 = .ok (.istore 5, 2) ∧ decode cX12_turnBy 103 = .ok (.iload 5, 2) ∧ decode cX12_turnBy 105 = .ok (.iload 4, 2) := by decide +kernel
theorem dX12_turnBy_93 : decode cX12_turnBy 93 = .ok (.iload_n 2, 1) := gd_X12_turnBy_93.1
theorem dX12_turnBy_94 : decode cX12_turnBy 94 = .ok (.imul, 1) := gd_X12_turnBy_93.2.1
theorem dX12_turnBy_95 : decode cX12_turnBy 95 = .ok (.iconst 1, 1) := gd_X12_turnBy_93.2.2.1
theorem dX12_turnBy_96 : decode cX12_turnBy 96 = .ok (.iadd, 1) := gd_X12_turnBy_93.2.2.2.1
theorem dX12_turnBy_97 : decode cX12_turnBy 97 = .ok (.iaload, 1) := gd_X12_turnBy_93.2.2.2.2.1
theorem dX12_turnBy_98 : decode cX12_turnBy 98 = .ok (.istore 4, 2) := gd_X12_turnBy_93.2.2.2.2.2.1
theorem dX12_turnBy_100 : decode cX12_turnBy 100 = .ok (.iconst 0, 1) := gd_X12_turnBy_93.2.2.2.2.2.2.1
theorem dX12_turnBy_101 : decode cX12_turnBy 101 = .ok (.istore 5, 2) := gd_X12_turnBy_93.2.2.2.2.2.2.2.1
theorem dX12_turnBy_103 : decode cX12_turnBy 103 = .ok (.iload 5, 2) := gd_X12_turnBy_93.2.2.2.2.2.2.2.2.1
theorem dX12_turnBy_105 : decode cX12_turnBy 105 = .ok (.iload 4, 2) := gd_X12_turnBy_93.2.2.2.2.2.2.2.2.2
theorem gd_X12_turnBy_107 : decode cX12_turnBy 107 = .ok (.if_icmp .ge 46, 3) ∧ decode cX12_turnBy 110 = .ok (.aload_n 0, 1) ∧ decode cX12_turnBy 111 = .ok (.getfield 76, 3) ∧ decode cX12_turnBy 114 = .ok (.iload 5, 2) ∧ decode cX12_turnBy 116 = .ok (.iload_n 3, 1) ∧ decode cX12_turnBy 117 = .ok (.ifCond .eq 13, 3) ∧ decode cX12_turnBy 120 = .ok (.aload_n 0, 1) ∧ decode cX12_turnBy 121 = .ok (.getfield 55, 3) ∧ decode cX12_turnBy 124 = .ok (.iload 5, 2) ∧ decode cX12_turnBy 126 = .ok (.baload, 1) := by decide +kernel
theorem dX12_turnBy_107 : decode cX12_turnBy 107 = .ok (.if_icmp .ge 46, 3) := gd_X12_turnBy_107.1
theorem dX12_turnBy_110 : decode cX12_turnBy 110 = .ok (.aload_n 0, 1) := gd_X12_turnBy_107.2.1
theorem dX12_turnBy_111 : decode cX12_turnBy 111 = .ok (.getfield 76, 3) := gd_X12_turnBy_107.2.2.1
theorem dX12_turnBy_114 : decode cX12_turnBy 114 = .ok (.iload 5, 2) := gd_X12_turnBy_107.2.2.2.1
theorem dX12_turnBy_116 : decode cX12_turnBy 116 = .ok (.iload_n 3, 1) := gd_X12_turnBy_107.2.2.2.2.1
theorem dX12_turnBy_117 : decode cX12_turnBy 117 = .ok (.ifCond .eq 13, 3) := gd_X12_turnBy_107.2.2.2.2.2.1
theorem dX12_turnBy_120 : decode cX12_turnBy 120 = .ok (.aload_n 0, 1) := gd_X12_turnBy_107.2.2.2.2.2.2.1
theorem dX12_turnBy_121 : decode cX12_turnBy 121 = .ok (.getfield 55, 3) := gd_X12_turnBy_107.2.2.2.2.2.2.2.1
theorem dX12_turnBy_124 : decode cX12_turnBy 124 = .ok (.iload 5, 2) := gd_X12_turnBy_107.2.2.2.2.2.2.2.2.1
theorem dX12_turnBy_126 : decode cX12_turnBy 126 = .ok (.baload, 1) := gd_X12_turnBy_107.2.2.2.2.2.2.2.2.2
theorem gd_X12_turnBy_127 : decode cX12_turnBy 127 = .ok (.goto 19, 3) ∧ decode cX12_turnBy 130 = .ok (.aload_n 0, 1) ∧ decode cX12_turnBy 131 = .ok (.getfield 49, 3) ∧ decode cX12_turnBy 134 = .ok (.bipush 16, 2) ∧ decode cX12_turnBy 136 = .ok (.iconst 2, 1) ∧ decode cX12_turnBy 137 = .ok (.iload_n 2, 1) ∧ decode cX12_turnBy 138 = .ok (.imul, 1) ∧ decode cX12_turnBy 139 = .ok (.iconst 1, 1) ∧ decode cX12_turnBy 140 = .ok (.iadd, 1) ∧ decode cX12_turnBy 141 = .ok (.imul, 1) := by decide +kernel
theorem dX12_turnBy_127 : decode cX12_turnBy 127 = .ok (.goto 19, 3) := gd_X12_turnBy_127.1
theorem dX12_turnBy_130 : decode cX12_turnBy 130 = .ok (.aload_n 0, 1) := gd_X12_turnBy_127.2.1
theorem dX12_turnBy_131 : decode cX12_turnBy 131 = .ok (.getfield 49, 3) := gd_X12_turnBy_127.2.2.1
theorem dX12_turnBy_134 : decode cX12_turnBy 134 = .ok (.bipush 16, 2) := gd_X12_turnBy_127.2.2.2.1
theorem dX12_turnBy_136 : decode cX12_turnBy 136 = .ok (.iconst 2, 1) := gd_X12_turnBy_127.2.2.2.2.1
theorem dX12_turnBy_137 : decode cX12_turnBy 137 = .ok (.iload_n 2, 1) := gd_X12_turnBy_127.2.2.2.2.2.1
theorem dX12_turnBy_138 : decode cX12_turnBy 138 = .ok (.imul, 1) := gd_X12_turnBy_127.2.2.2.2.2.2.1
theorem dX12_turnBy_139 : decode cX12_turnBy 139 = .ok (.iconst 1, 1) := gd_X12_turnBy_127.2.2.2.2.2.2.2.1
theorem dX12_turnBy_140 : decode cX12_turnBy 140 = .ok (.iadd, 1) := gd_X12_turnBy_127.2.2.2.2.2.2.2.2.1
theorem dX12_turnBy_141 : decode cX12_turnBy 141 = .ok (.imul, 1) := gd_X12_turnBy_127.2.2.2.2.2.2.2.2.2
theorem gd_X12_turnBy_142 : decode cX12_turnBy 142 = .ok (.iload 5, 2) ∧ decode cX12_turnBy 144 = .ok (.iadd, 1) ∧ decode cX12_turnBy 145 = .ok (.baload, 1) ∧ decode cX12_turnBy 146 = .ok (.bastore, 1) ∧ decode cX12_turnBy 147 = .ok (.iinc 5 1, 3) ∧ decode cX12_turnBy 150 = .ok (.goto (-47), 3) ∧ decode cX12_turnBy 153 = .ok (.aload_n 0, 1) ∧ decode cX12_turnBy 154 = .ok (.getfield 79, 3) ∧ decode cX12_turnBy 157 = .ok (.iconst 0, 1) ∧ decode cX12_turnBy 158 = .ok (.iload 4, 2) := by decide +kernel
theorem dX12_turnBy_142 : decode cX12_turnBy 142 = .ok (.iload 5, 2) := gd_X12_turnBy_142.1
theorem dX12_turnBy_144 : decode cX12_turnBy 144 = .ok (.iadd, 1) := gd_X12_turnBy_142.2.1
theorem dX12_turnBy_145 : decode cX12_turnBy 145 = .ok (.baload, 1) := gd_X12_turnBy_142.2.2.1
theorem dX12_turnBy_146 : decode cX12_turnBy 146 = .ok (.bastore, 1) := gd_X12_turnBy_142.2.2.2.1
theorem dX12_turnBy_147 : decode cX12_turnBy 147 = .ok (.iinc 5 1, 3) := gd_X12_turnBy_142.2.2.2.2.1
theorem dX12_turnBy_150 : decode cX12_turnBy 150 = .ok (.goto (-47), 3) := gd_X12_turnBy_142.2.2.2.2.2.1
theorem dX12_turnBy_153 : decode cX12_turnBy 153 = .ok (.aload_n 0, 1) := gd_X12_turnBy_142.2.2.2.2.2.2.1
theorem dX12_turnBy_154 : decode cX12_turnBy 154 = .ok (.getfield 79, 3) := gd_X12_turnBy_142.2.2.2.2.2.2.2.1
theorem dX12_turnBy_157 : decode cX12_turnBy 157 = .ok (.iconst 0, 1) := gd_X12_turnBy_142.2.2.2.2.2.2.2.2.1
theorem dX12_turnBy_158 : decode cX12_turnBy 158 = .ok (.iload 4, 2) := gd_X12_turnBy_142.2.2.2.2.2.2.2.2.2
theorem gd_X12_turnBy_160 : decode cX12_turnBy 160 = .ok (.iastore, 1) ∧ decode cX12_turnBy 161 = .ok (.aload_n 0, 1) ∧ decode cX12_turnBy 162 = .ok (.iload 4, 2) ∧ decode cX12_turnBy 164 = .ok (.ifCond .ne 7, 3) ∧ decode cX12_turnBy 167 = .ok (.iconst 0, 1) ∧ decode cX12_turnBy 168 = .ok (.goto 4, 3) ∧ decode cX12_turnBy 171 = .ok (.iconst 1, 1) ∧ decode cX12_turnBy 172 = .ok (.putfield 270, 3) ∧ decode cX12_turnBy 175 = .ok (.return_, 1) ∧ decode cX12_through 0 = .ok (.iconst 0, 1) := by decide +kernel
theorem dX12_turnBy_160 : decode cX12_turnBy 160 = .ok (.iastore, 1) := gd_X12_turnBy_160.1
theorem dX12_turnBy_161 : decode cX12_turnBy 161 = .ok (.aload_n 0, 1) := gd_X12_turnBy_160.2.1
theorem dX12_turnBy_162 : decode cX12_turnBy 162 = .ok (.iload 4, 2) := gd_X12_turnBy_160.2.2.1
theorem dX12_turnBy_164 : decode cX12_turnBy 164 = .ok (.ifCond .ne 7, 3) := gd_X12_turnBy_160.2.2.2.1
theorem dX12_turnBy_167 : decode cX12_turnBy 167 = .ok (.iconst 0, 1) := gd_X12_turnBy_160.2.2.2.2.1
theorem dX12_turnBy_168 : decode cX12_turnBy 168 = .ok (.goto 4, 3) := gd_X12_turnBy_160.2.2.2.2.2.1
theorem dX12_turnBy_171 : decode cX12_turnBy 171 = .ok (.iconst 1, 1) := gd_X12_turnBy_160.2.2.2.2.2.2.1
theorem dX12_turnBy_172 : decode cX12_turnBy 172 = .ok (.putfield 270, 3) := gd_X12_turnBy_160.2.2.2.2.2.2.2.1
theorem dX12_turnBy_175 : decode cX12_turnBy 175 = .ok (.return_, 1) := gd_X12_turnBy_160.2.2.2.2.2.2.2.2.1
theorem dX12_through_0 : decode cX12_through 0 = .ok (.iconst 0, 1) := gd_X12_turnBy_160.2.2.2.2.2.2.2.2.2
theorem gd_X12_through_1 : decode cX12_through 1 = .ok (.istore_n 3, 1) ∧ decode cX12_through 2 = .ok (.iload_n 3, 1) ∧ decode cX12_through 3 = .ok (.aload_n 0, 1) ∧ decode cX12_through 4 = .ok (.getfield 244, 3) ∧ decode cX12_through 7 = .ok (.if_icmp .ge 21, 3) ∧ decode cX12_through 10 = .ok (.aload_n 0, 1) ∧ decode cX12_through 11 = .ok (.getfield 82, 3) ∧ decode cX12_through 14 = .ok (.iload_n 3, 1) ∧ decode cX12_through 15 = .ok (.aload_n 0, 1) ∧ decode cX12_through 16 = .ok (.getfield 55, 3) := by decide +kernel
theorem dX12_through_1 : decode cX12_through 1 = .ok (.istore_n 3, 1) := gd_X12_through_1.1
theorem dX12_through_2 : decode cX12_through 2 = .ok (.iload_n 3, 1) := gd_X12_through_1.2.1
theorem dX12_through_3 : decode cX12_through 3 = .ok (.aload_n 0, 1) := gd_X12_through_1.2.2.1
theorem dX12_through_4 : decode cX12_through 4 = .ok (.getfield 244, 3) := gd_X12_through_1.2.2.2.1
theorem dX12_through_7 : decode cX12_through 7 = .ok (.if_icmp .ge 21, 3) := gd_X12_through_1.2.2.2.2.1
theorem dX12_through_10 : decode cX12_through 10 = .ok (.aload_n 0, 1) := gd_X12_through_1.2.2.2.2.2.1
theorem dX12_through_11 : decode cX12_through 11 = .ok (.getfield 82, 3) := gd_X12_through_1.2.2.2.2.2.2.1
theorem dX12_through_14 : decode cX12_through 14 = .ok (.iload_n 3, 1) := gd_X12_through_1.2.2.2.2.2.2.2.1
theorem dX12_through_15 : decode cX12_through 15 = .ok (.aload_n 0, 1) := gd_X12_through_1.2.2.2.2.2.2.2.2.1
theorem dX12_through_16 : decode cX12_through 16 = .ok (.getfield 55, 3) := gd_X12_through_1.2.2.2.2.2.2.2.2.2
theorem gd_X12_through_19 : decode cX12_through 19 = .ok (.iload_n 3, 1) ∧ decode cX12_through 20 = .ok (.baload, 1) ∧ decode cX12_through 21 = .ok (.bastore, 1) ∧ decode cX12_through 22 = .ok (.iinc 3 1, 3) ∧ decode cX12_through 25 = .ok (.goto (-23), 3) ∧ decode cX12_through 28 = .ok (.aload_n 0, 1) ∧ decode cX12_through 29 = .ok (.getfield 85, 3) ∧ decode cX12_through 32 = .ok (.iconst 0, 1) ∧ decode cX12_through 33 = .ok (.aload_n 0, 1) ∧ decode cX12_through 34 = .ok (.getfield 244, 3) := by decide +kernel
theorem dX12_through_19 : decode cX12_through 19 = .ok (.iload_n 3, 1) := gd_X12_through_19.1
theorem dX12_through_20 : decode cX12_through 20 = .ok (.baload, 1) := gd_X12_through_19.2.1
theorem dX12_through_21 : decode cX12_through 21 = .ok (.bastore, 1) := gd_X12_through_19.2.2.1
theorem dX12_through_22 : decode cX12_through 22 = .ok (.iinc 3 1, 3) := gd_X12_through_19.2.2.2.1
theorem dX12_through_25 : decode cX12_through 25 = .ok (.goto (-23), 3) := gd_X12_through_19.2.2.2.2.1
theorem dX12_through_28 : decode cX12_through 28 = .ok (.aload_n 0, 1) := gd_X12_through_19.2.2.2.2.2.1
theorem dX12_through_29 : decode cX12_through 29 = .ok (.getfield 85, 3) := gd_X12_through_19.2.2.2.2.2.2.1
theorem dX12_through_32 : decode cX12_through 32 = .ok (.iconst 0, 1) := gd_X12_through_19.2.2.2.2.2.2.2.1
theorem dX12_through_33 : decode cX12_through 33 = .ok (.aload_n 0, 1) := gd_X12_through_19.2.2.2.2.2.2.2.2.1
theorem dX12_through_34 : decode cX12_through 34 = .ok (.getfield 244, 3) := gd_X12_through_19.2.2.2.2.2.2.2.2.2
theorem gd_X12_through_37 : decode cX12_through 37 = .ok (.iastore, 1) ∧ decode cX12_through 38 = .ok (.aload_n 0, 1) ∧ decode cX12_through 39 = .ok (.iconst 1, 1) ∧ decode cX12_through 40 = .ok (.putfield 287, 3) ∧ decode cX12_through 43 = .ok (.iload_n 1, 1) ∧ decode cX12_through 44 = .ok (.istore_n 3, 1) ∧ decode cX12_through 45 = .ok (.iload_n 3, 1) ∧ decode cX12_through 46 = .ok (.iload_n 2, 1) ∧ decode cX12_through 47 = .ok (.if_icmp .ge 304, 3) ∧ decode cX12_through 50 = .ok (.iconst 0, 1) := by decide +kernel
theorem dX12_through_37 : decode cX12_through 37 = .ok (.iastore, 1) := gd_X12_through_37.1
theorem dX12_through_38 : decode cX12_through 38 = .ok (.aload_n 0, 1) := gd_X12_through_37.2.1
theorem dX12_through_39 : decode cX12_through 39 = .ok (.iconst 1, 1) := gd_X12_through_37.2.2.1
theorem dX12_through_40 : decode cX12_through 40 = .ok (.putfield 287, 3) := gd_X12_through_37.2.2.2.1
theorem dX12_through_43 : decode cX12_through 43 = .ok (.iload_n 1, 1) := gd_X12_through_37.2.2.2.2.1
theorem dX12_through_44 : decode cX12_through 44 = .ok (.istore_n 3, 1) := gd_X12_through_37.2.2.2.2.2.1
theorem dX12_through_45 : decode cX12_through 45 = .ok (.iload_n 3, 1) := gd_X12_through_37.2.2.2.2.2.2.1
theorem dX12_through_46 : decode cX12_through 46 = .ok (.iload_n 2, 1) := gd_X12_through_37.2.2.2.2.2.2.2.1
theorem dX12_through_47 : decode cX12_through 47 = .ok (.if_icmp .ge 304, 3) := gd_X12_through_37.2.2.2.2.2.2.2.2.1
theorem dX12_through_50 : decode cX12_through 50 = .ok (.iconst 0, 1) := gd_X12_through_37.2.2.2.2.2.2.2.2.2
theorem gd_X12_through_51 : decode cX12_through 51 = .ok (.istore 4, 2) ∧ decode cX12_through 53 = .ok (.iconst 0, 1) ∧ decode cX12_through 54 = .ok (.istore 5, 2) ∧ decode cX12_through 56 = .ok (.iload 5, 2) ∧ decode cX12_through 58 = .ok (.aload_n 0, 1) ∧ decode cX12_through 59 = .ok (.getfield 287, 3) ∧ decode cX12_through 62 = .ok (.if_icmp .ge 200, 3) ∧ decode cX12_through 65 = .ok (.aload_n 0, 1) ∧ decode cX12_through 66 = .ok (.aload_n 0, 1) ∧ decode cX12_through 67 = .ok (.getfield 82, 3) := by decide +kernel
theorem dX12_through_51 : decode cX12_through 51 = .ok (.istore 4, 2) := gd_X12_through_51.1
theorem dX12_through_53 : decode cX12_through 53 = .ok (.iconst 0, 1) := gd_X12_through_51.2.1
theorem dX12_through_54 : decode cX12_through 54 = .ok (.istore 5, 2) := gd_X12_through_51.2.2.1
theorem dX12_through_56 : decode cX12_through 56 = .ok (.iload 5, 2) := gd_X12_through_51.2.2.2.1
theorem dX12_through_58 : decode cX12_through 58 = .ok (.aload_n 0, 1) := gd_X12_through_51.2.2.2.2.1
theorem dX12_through_59 : decode cX12_through 59 = .ok (.getfield 287, 3) := gd_X12_through_51.2.2.2.2.2.1
theorem dX12_through_62 : decode cX12_through 62 = .ok (.if_icmp .ge 200, 3) := gd_X12_through_51.2.2.2.2.2.2.1
theorem dX12_through_65 : decode cX12_through 65 = .ok (.aload_n 0, 1) := gd_X12_through_51.2.2.2.2.2.2.2.1
theorem dX12_through_66 : decode cX12_through 66 = .ok (.aload_n 0, 1) := gd_X12_through_51.2.2.2.2.2.2.2.2.1
theorem dX12_through_67 : decode cX12_through 67 = .ok (.getfield 82, 3) := gd_X12_through_51.2.2.2.2.2.2.2.2.2
theorem gd_X12_through_70 : decode cX12_through 70 = .ok (.bipush 24, 2) ∧ decode cX12_through 72 = .ok (.iload 5, 2) ∧ decode cX12_through 74 = .ok (.imul, 1) ∧ decode cX12_through 75 = .ok (.aload_n 0, 1) ∧ decode cX12_through 76 = .ok (.getfield 85, 3) ∧ decode cX12_through 79 = .ok (.iload 5, 2) ∧ decode cX12_through 81 = .ok (.iaload, 1) ∧ decode cX12_through 82 = .ok (.invokevirtual 290, 3) ∧ decode cX12_through 85 = .ok (.aload_n 0, 1) ∧ decode cX12_through 86 = .ok (.iload_n 3, 1) := by decide +kernel
theorem dX12_through_70 : decode cX12_through 70 = .ok (.bipush 24, 2) := gd_X12_through_70.1
theorem dX12_through_72 : decode cX12_through 72 = .ok (.iload 5, 2) := gd_X12_through_70.2.1
theorem dX12_through_74 : decode cX12_through 74 = .ok (.imul, 1) := gd_X12_through_70.2.2.1
theorem dX12_through_75 : decode cX12_through 75 = .ok (.aload_n 0, 1) := gd_X12_through_70.2.2.2.1
theorem dX12_through_76 : decode cX12_through 76 = .ok (.getfield 85, 3) := gd_X12_through_70.2.2.2.2.1
theorem dX12_through_79 : decode cX12_through 79 = .ok (.iload 5, 2) := gd_X12_through_70.2.2.2.2.2.1
theorem dX12_through_81 : decode cX12_through 81 = .ok (.iaload, 1) := gd_X12_through_70.2.2.2.2.2.2.1
theorem dX12_through_82 : decode cX12_through 82 = .ok (.invokevirtual 290, 3) := gd_X12_through_70.2.2.2.2.2.2.2.1
theorem dX12_through_85 : decode cX12_through 85 = .ok (.aload_n 0, 1) := gd_X12_through_70.2.2.2.2.2.2.2.2.1
theorem dX12_through_86 : decode cX12_through 86 = .ok (.iload_n 3, 1) := gd_X12_through_70.2.2.2.2.2.2.2.2.2
theorem gd_X12_through_87 : decode cX12_through 87 = .ok (.invokevirtual 294, 3) ∧ decode cX12_through 90 = .ok (.iconst 0, 1) ∧ decode cX12_through 91 = .ok (.istore 6, 2) ∧ decode cX12_through 93 = .ok (.iload 6, 2) ∧ decode cX12_through 95 = .ok (.aload_n 0, 1) ∧ decode cX12_through 96 = .ok (.getfield 270, 3) ∧ decode cX12_through 99 = .ok (.if_icmp .ge 157, 3) ∧ decode cX12_through 102 = .ok (.iload 4, 2) ∧ decode cX12_through 104 = .ok (.bipush 12, 2) ∧ decode cX12_through 106 = .ok (.if_icmp .ge 150, 3) := by decide +kernel
theorem dX12_through_87 : decode cX12_through 87 = .ok (.invokevirtual 294, 3) := gd_X12_through_87.1
theorem dX12_through_90 : decode cX12_through 90 = .ok (.iconst 0, 1) := gd_X12_through_87.2.1
theorem dX12_through_91 : decode cX12_through 91 = .ok (.istore 6, 2) := gd_X12_through_87.2.2.1
theorem dX12_through_93 : decode cX12_through 93 = .ok (.iload 6, 2) := gd_X12_through_87.2.2.2.1
theorem dX12_through_95 : decode cX12_through 95 = .ok (.aload_n 0, 1) := gd_X12_through_87.2.2.2.2.1
theorem dX12_through_96 : decode cX12_through 96 = .ok (.getfield 270, 3) := gd_X12_through_87.2.2.2.2.2.1
theorem dX12_through_99 : decode cX12_through 99 = .ok (.if_icmp .ge 157, 3) := gd_X12_through_87.2.2.2.2.2.2.1
theorem dX12_through_102 : decode cX12_through 102 = .ok (.iload 4, 2) := gd_X12_through_87.2.2.2.2.2.2.2.1
theorem dX12_through_104 : decode cX12_through 104 = .ok (.bipush 12, 2) := gd_X12_through_87.2.2.2.2.2.2.2.2.1
theorem dX12_through_106 : decode cX12_through 106 = .ok (.if_icmp .ge 150, 3) := gd_X12_through_87.2.2.2.2.2.2.2.2.2
theorem gd_X12_through_109 : decode cX12_through 109 = .ok (.iconst 1, 1) ∧ decode cX12_through 110 = .ok (.istore 7, 2) ∧ decode cX12_through 112 = .ok (.iconst 0, 1) ∧ decode cX12_through 113 = .ok (.istore 8, 2) ∧ decode cX12_through 115 = .ok (.iload 8, 2) ∧ decode cX12_through 117 = .ok (.iload 4, 2) ∧ decode cX12_through 119 = .ok (.if_icmp .ge 59, 3) ∧ decode cX12_through 122 = .ok (.iload 7, 2) ∧ decode cX12_through 124 = .ok (.ifCond .eq 54, 3) ∧ decode cX12_through 127 = .ok (.aload_n 0, 1) := by decide +kernel
theorem dX12_through_109 : decode cX12_through 109 = .ok (.iconst 1, 1) := gd_X12_through_109.1
theorem dX12_through_110 : decode cX12_through 110 = .ok (.istore 7, 2) := gd_X12_through_109.2.1
theorem dX12_through_112 : decode cX12_through 112 = .ok (.iconst 0, 1) := gd_X12_through_109.2.2.1
theorem dX12_through_113 : decode cX12_through 113 = .ok (.istore 8, 2) := gd_X12_through_109.2.2.2.1
theorem dX12_through_115 : decode cX12_through 115 = .ok (.iload 8, 2) := gd_X12_through_109.2.2.2.2.1
theorem dX12_through_117 : decode cX12_through 117 = .ok (.iload 4, 2) := gd_X12_through_109.2.2.2.2.2.1
theorem dX12_through_119 : decode cX12_through 119 = .ok (.if_icmp .ge 59, 3) := gd_X12_through_109.2.2.2.2.2.2.1
theorem dX12_through_122 : decode cX12_through 122 = .ok (.iload 7, 2) := gd_X12_through_109.2.2.2.2.2.2.2.1
theorem dX12_through_124 : decode cX12_through 124 = .ok (.ifCond .eq 54, 3) := gd_X12_through_109.2.2.2.2.2.2.2.2.1
theorem dX12_through_127 : decode cX12_through 127 = .ok (.aload_n 0, 1) := gd_X12_through_109.2.2.2.2.2.2.2.2.2
theorem gd_X12_through_128 : decode cX12_through 128 = .ok (.getfield 88, 3) ∧ decode cX12_through 131 = .ok (.bipush 24, 2) ∧ decode cX12_through 133 = .ok (.iload 8, 2) ∧ decode cX12_through 135 = .ok (.imul, 1) ∧ decode cX12_through 136 = .ok (.aload_n 0, 1) ∧ decode cX12_through 137 = .ok (.getfield 91, 3) ∧ decode cX12_through 140 = .ok (.iload 8, 2) ∧ decode cX12_through 142 = .ok (.iaload, 1) ∧ decode cX12_through 143 = .ok (.aload_n 0, 1) ∧ decode cX12_through 144 = .ok (.getfield 76, 3) := by decide +kernel
theorem dX12_through_128 : decode cX12_through 128 = .ok (.getfield 88, 3) := gd_X12_through_128.1
theorem dX12_through_131 : decode cX12_through 131 = .ok (.bipush 24, 2) := gd_X12_through_128.2.1
theorem dX12_through_133 : decode cX12_through 133 = .ok (.iload 8, 2) := gd_X12_through_128.2.2.1
theorem dX12_through_135 : decode cX12_through 135 = .ok (.imul, 1) := gd_X12_through_128.2.2.2.1
theorem dX12_through_136 : decode cX12_through 136 = .ok (.aload_n 0, 1) := gd_X12_through_128.2.2.2.2.1
theorem dX12_through_137 : decode cX12_through 137 = .ok (.getfield 91, 3) := gd_X12_through_128.2.2.2.2.2.1
theorem dX12_through_140 : decode cX12_through 140 = .ok (.iload 8, 2) := gd_X12_through_128.2.2.2.2.2.2.1
theorem dX12_through_142 : decode cX12_through 142 = .ok (.iaload, 1) := gd_X12_through_128.2.2.2.2.2.2.2.1
theorem dX12_through_143 : decode cX12_through 143 = .ok (.aload_n 0, 1) := gd_X12_through_128.2.2.2.2.2.2.2.2.1
theorem dX12_through_144 : decode cX12_through 144 = .ok (.getfield 76, 3) := gd_X12_through_128.2.2.2.2.2.2.2.2.2
theorem gd_X12_through_147 : decode cX12_through 147 = .ok (.bipush 24, 2) ∧ decode cX12_through 149 = .ok (.iload 6, 2) ∧ decode cX12_through 151 = .ok (.imul, 1) ∧ decode cX12_through 152 = .ok (.aload_n 0, 1) ∧ decode cX12_through 153 = .ok (.getfield 79, 3) ∧ decode cX12_through 156 = .ok (.iload 6, 2) ∧ decode cX12_through 158 = .ok (.iaload, 1) ∧ decode cX12_through 159 = .ok (.invokestatic 273, 3) ∧ decode cX12_through 162 = .ok (.ifCond .ne 7, 3) ∧ decode cX12_through 165 = .ok (.iconst 1, 1) := by decide +kernel
theorem dX12_through_147 : decode cX12_through 147 = .ok (.bipush 24, 2) := gd_X12_through_147.1
theorem dX12_through_149 : decode cX12_through 149 = .ok (.iload 6, 2) := gd_X12_through_147.2.1
theorem dX12_through_151 : decode cX12_through 151 = .ok (.imul, 1) := gd_X12_through_147.2.2.1
theorem dX12_through_152 : decode cX12_through 152 = .ok (.aload_n 0, 1) := gd_X12_through_147.2.2.2.1
theorem dX12_through_153 : decode cX12_through 153 = .ok (.getfield 79, 3) := gd_X12_through_147.2.2.2.2.1
theorem dX12_through_156 : decode cX12_through 156 = .ok (.iload 6, 2) := gd_X12_through_147.2.2.2.2.2.1
theorem dX12_through_158 : decode cX12_through 158 = .ok (.iaload, 1) := gd_X12_through_147.2.2.2.2.2.2.1
theorem dX12_through_159 : decode cX12_through 159 = .ok (.invokestatic 273, 3) := gd_X12_through_147.2.2.2.2.2.2.2.1
theorem dX12_through_162 : decode cX12_through 162 = .ok (.ifCond .ne 7, 3) := gd_X12_through_147.2.2.2.2.2.2.2.2.1
theorem dX12_through_165 : decode cX12_through 165 = .ok (.iconst 1, 1) := gd_X12_through_147.2.2.2.2.2.2.2.2.2
theorem gd_X12_through_166 : decode cX12_through 166 = .ok (.goto 4, 3) ∧ decode cX12_through 169 = .ok (.iconst 0, 1) ∧ decode cX12_through 170 = .ok (.istore 7, 2) ∧ decode cX12_through 172 = .ok (.iinc 8 1, 3) ∧ decode cX12_through 175 = .ok (.goto (-60), 3) ∧ decode cX12_through 178 = .ok (.iload 7, 2) ∧ decode cX12_through 180 = .ok (.ifCond .ne 6, 3) ∧ decode cX12_through 183 = .ok (.goto 67, 3) ∧ decode cX12_through 186 = .ok (.iconst 0, 1) ∧ decode cX12_through 187 = .ok (.istore 8, 2) := by decide +kernel
theorem dX12_through_166 : decode cX12_through 166 = .ok (.goto 4, 3) := gd_X12_through_166.1
theorem dX12_through_169 : decode cX12_through 169 = .ok (.iconst 0, 1) := gd_X12_through_166.2.1
theorem dX12_through_170 : decode cX12_through 170 = .ok (.istore 7, 2) := gd_X12_through_166.2.2.1
theorem dX12_through_172 : decode cX12_through 172 = .ok (.iinc 8 1, 3) := gd_X12_through_166.2.2.2.1
theorem dX12_through_175 : decode cX12_through 175 = .ok (.goto (-60), 3) := gd_X12_through_166.2.2.2.2.1
theorem dX12_through_178 : decode cX12_through 178 = .ok (.iload 7, 2) := gd_X12_through_166.2.2.2.2.2.1
theorem dX12_through_180 : decode cX12_through 180 = .ok (.ifCond .ne 6, 3) := gd_X12_through_166.2.2.2.2.2.2.1
theorem dX12_through_183 : decode cX12_through 183 = .ok (.goto 67, 3) := gd_X12_through_166.2.2.2.2.2.2.2.1
theorem dX12_through_186 : decode cX12_through 186 = .ok (.iconst 0, 1) := gd_X12_through_166.2.2.2.2.2.2.2.2.1
theorem dX12_through_187 : decode cX12_through 187 = .ok (.istore 8, 2) := gd_X12_through_166.2.2.2.2.2.2.2.2.2
theorem gd_X12_through_189 : decode cX12_through 189 = .ok (.iload 8, 2) ∧ decode cX12_through 191 = .ok (.aload_n 0, 1) ∧ decode cX12_through 192 = .ok (.getfield 79, 3) ∧ decode cX12_through 195 = .ok (.iload 6, 2) ∧ decode cX12_through 197 = .ok (.iaload, 1) ∧ decode cX12_through 198 = .ok (.if_icmp .ge 35, 3) ∧ decode cX12_through 201 = .ok (.aload_n 0, 1) ∧ decode cX12_through 202 = .ok (.getfield 88, 3) ∧ decode cX12_through 205 = .ok (.bipush 24, 2) ∧ decode cX12_through 207 = .ok (.iload 4, 2) := by decide +kernel
theorem dX12_through_189 : decode cX12_through 189 = .ok (.iload 8, 2) := gd_X12_through_189.1
theorem dX12_through_191 : decode cX12_through 191 = .ok (.aload_n 0, 1) := gd_X12_through_189.2.1
theorem dX12_through_192 : decode cX12_through 192 = .ok (.getfield 79, 3) := gd_X12_through_189.2.2.1
theorem dX12_through_195 : decode cX12_through 195 = .ok (.iload 6, 2) := gd_X12_through_189.2.2.2.1
theorem dX12_through_197 : decode cX12_through 197 = .ok (.iaload, 1) := gd_X12_through_189.2.2.2.2.1
theorem dX12_through_198 : decode cX12_through 198 = .ok (.if_icmp .ge 35, 3) := gd_X12_through_189.2.2.2.2.2.1
theorem dX12_through_201 : decode cX12_through 201 = .ok (.aload_n 0, 1) := gd_X12_through_189.2.2.2.2.2.2.1
theorem dX12_through_202 : decode cX12_through 202 = .ok (.getfield 88, 3) := gd_X12_through_189.2.2.2.2.2.2.2.1
theorem dX12_through_205 : decode cX12_through 205 = .ok (.bipush 24, 2) := gd_X12_through_189.2.2.2.2.2.2.2.2.1
theorem dX12_through_207 : decode cX12_through 207 = .ok (.iload 4, 2) := gd_X12_through_189.2.2.2.2.2.2.2.2.2
theorem gd_X12_through_209 : decode cX12_through 209 = .ok (.imul, 1) ∧ decode cX12_through 210 = .ok (.iload 8, 2) ∧ decode cX12_through 212 = .ok (.iadd, 1) ∧ decode cX12_through 213 = .ok (.aload_n 0, 1) ∧ decode cX12_through 214 = .ok (.getfield 76, 3) ∧ decode cX12_through 217 = .ok (.bipush 24, 2) ∧ decode cX12_through 219 = .ok (.iload 6, 2) ∧ decode cX12_through 221 = .ok (.imul, 1) ∧ decode cX12_through 222 = .ok (.iload 8, 2) ∧ decode cX12_through 224 = .ok (.iadd, 1) := by decide +kernel
theorem dX12_through_209 : decode cX12_through 209 = .ok (.imul, 1) := gd_X12_through_209.1
theorem dX12_through_210 : decode cX12_through 210 = .ok (.iload 8, 2) := gd_X12_through_209.2.1
theorem dX12_through_212 : decode cX12_through 212 = .ok (.iadd, 1) := gd_X12_through_209.2.2.1
theorem dX12_through_213 : decode cX12_through 213 = .ok (.aload_n 0, 1) := gd_X12_through_209.2.2.2.1
theorem dX12_through_214 : decode cX12_through 214 = .ok (.getfield 76, 3) := gd_X12_through_209.2.2.2.2.1
theorem dX12_through_217 : decode cX12_through 217 = .ok (.bipush 24, 2) := gd_X12_through_209.2.2.2.2.2.1
theorem dX12_through_219 : decode cX12_through 219 = .ok (.iload 6, 2) := gd_X12_through_209.2.2.2.2.2.2.1
theorem dX12_through_221 : decode cX12_through 221 = .ok (.imul, 1) := gd_X12_through_209.2.2.2.2.2.2.2.1
theorem dX12_through_222 : decode cX12_through 222 = .ok (.iload 8, 2) := gd_X12_through_209.2.2.2.2.2.2.2.2.1
theorem dX12_through_224 : decode cX12_through 224 = .ok (.iadd, 1) := gd_X12_through_209.2.2.2.2.2.2.2.2.2
theorem gd_X12_through_225 : decode cX12_through 225 = .ok (.baload, 1) ∧ decode cX12_through 226 = .ok (.bastore, 1) ∧ decode cX12_through 227 = .ok (.iinc 8 1, 3) ∧ decode cX12_through 230 = .ok (.goto (-41), 3) ∧ decode cX12_through 233 = .ok (.aload_n 0, 1) ∧ decode cX12_through 234 = .ok (.getfield 91, 3) ∧ decode cX12_through 237 = .ok (.iload 4, 2) ∧ decode cX12_through 239 = .ok (.aload_n 0, 1) ∧ decode cX12_through 240 = .ok (.getfield 79, 3) ∧ decode cX12_through 243 = .ok (.iload 6, 2) := by decide +kernel
theorem dX12_through_225 : decode cX12_through 225 = .ok (.baload, 1) := gd_X12_through_225.1
theorem dX12_through_226 : decode cX12_through 226 = .ok (.bastore, 1) := gd_X12_through_225.2.1
theorem dX12_through_227 : decode cX12_through 227 = .ok (.iinc 8 1, 3) := gd_X12_through_225.2.2.1
theorem dX12_through_230 : decode cX12_through 230 = .ok (.goto (-41), 3) := gd_X12_through_225.2.2.2.1
theorem dX12_through_233 : decode cX12_through 233 = .ok (.aload_n 0, 1) := gd_X12_through_225.2.2.2.2.1
theorem dX12_through_234 : decode cX12_through 234 = .ok (.getfield 91, 3) := gd_X12_through_225.2.2.2.2.2.1
theorem dX12_through_237 : decode cX12_through 237 = .ok (.iload 4, 2) := gd_X12_through_225.2.2.2.2.2.2.1
theorem dX12_through_239 : decode cX12_through 239 = .ok (.aload_n 0, 1) := gd_X12_through_225.2.2.2.2.2.2.2.1
theorem dX12_through_240 : decode cX12_through 240 = .ok (.getfield 79, 3) := gd_X12_through_225.2.2.2.2.2.2.2.2.1
theorem dX12_through_243 : decode cX12_through 243 = .ok (.iload 6, 2) := gd_X12_through_225.2.2.2.2.2.2.2.2.2
theorem gd_X12_through_245 : decode cX12_through 245 = .ok (.iaload, 1) ∧ decode cX12_through 246 = .ok (.iastore, 1) ∧ decode cX12_through 247 = .ok (.iinc 4 1, 3) ∧ decode cX12_through 250 = .ok (.iinc 6 1, 3) ∧ decode cX12_through 253 = .ok (.goto (-160), 3) ∧ decode cX12_through 256 = .ok (.iinc 5 1, 3) ∧ decode cX12_through 259 = .ok (.goto (-203), 3) ∧ decode cX12_through 262 = .ok (.aload_n 0, 1) ∧ decode cX12_through 263 = .ok (.iload 4, 2) ∧ decode cX12_through 265 = .ok (.putfield 287, 3) := by decide +kernel
theorem dX12_through_245 : decode cX12_through 245 = .ok (.iaload, 1) := gd_X12_through_245.1
theorem dX12_through_246 : decode cX12_through 246 = .ok (.iastore, 1) := gd_X12_through_245.2.1
theorem dX12_through_247 : decode cX12_through 247 = .ok (.iinc 4 1, 3) := gd_X12_through_245.2.2.1
theorem dX12_through_250 : decode cX12_through 250 = .ok (.iinc 6 1, 3) := gd_X12_through_245.2.2.2.1
theorem dX12_through_253 : decode cX12_through 253 = .ok (.goto (-160), 3) := gd_X12_through_245.2.2.2.2.1
theorem dX12_through_256 : decode cX12_through 256 = .ok (.iinc 5 1, 3) := gd_X12_through_245.2.2.2.2.2.1
theorem dX12_through_259 : decode cX12_through 259 = .ok (.goto (-203), 3) := gd_X12_through_245.2.2.2.2.2.2.1
theorem dX12_through_262 : decode cX12_through 262 = .ok (.aload_n 0, 1) := gd_X12_through_245.2.2.2.2.2.2.2.1
theorem dX12_through_263 : decode cX12_through 263 = .ok (.iload 4, 2) := gd_X12_through_245.2.2.2.2.2.2.2.2.1
theorem dX12_through_265 : decode cX12_through 265 = .ok (.putfield 287, 3) := gd_X12_through_245.2.2.2.2.2.2.2.2.2
theorem gd_X12_through_268 : decode cX12_through 268 = .ok (.iconst 0, 1) ∧ decode cX12_through 269 = .ok (.istore 5, 2) ∧ decode cX12_through 271 = .ok (.iload 5, 2) ∧ decode cX12_through 273 = .ok (.iload 4, 2) ∧ decode cX12_through 275 = .ok (.if_icmp .ge 70, 3) ∧ decode cX12_through 278 = .ok (.aload_n 0, 1) ∧ decode cX12_through 279 = .ok (.getfield 85, 3) ∧ decode cX12_through 282 = .ok (.iload 5, 2) ∧ decode cX12_through 284 = .ok (.aload_n 0, 1) ∧ decode cX12_through 285 = .ok (.getfield 91, 3) := by decide +kernel
theorem dX12_through_268 : decode cX12_through 268 = .ok (.iconst 0, 1) := gd_X12_through_268.1
theorem dX12_through_269 : decode cX12_through 269 = .ok (.istore 5, 2) := gd_X12_through_268.2.1
theorem dX12_through_271 : decode cX12_through 271 = .ok (.iload 5, 2) := gd_X12_through_268.2.2.1
theorem dX12_through_273 : decode cX12_through 273 = .ok (.iload 4, 2) := gd_X12_through_268.2.2.2.1
theorem dX12_through_275 : decode cX12_through 275 = .ok (.if_icmp .ge 70, 3) := gd_X12_through_268.2.2.2.2.1
theorem dX12_through_278 : decode cX12_through 278 = .ok (.aload_n 0, 1) := gd_X12_through_268.2.2.2.2.2.1
theorem dX12_through_279 : decode cX12_through 279 = .ok (.getfield 85, 3) := gd_X12_through_268.2.2.2.2.2.2.1
theorem dX12_through_282 : decode cX12_through 282 = .ok (.iload 5, 2) := gd_X12_through_268.2.2.2.2.2.2.2.1
theorem dX12_through_284 : decode cX12_through 284 = .ok (.aload_n 0, 1) := gd_X12_through_268.2.2.2.2.2.2.2.2.1
theorem dX12_through_285 : decode cX12_through 285 = .ok (.getfield 91, 3) := gd_X12_through_268.2.2.2.2.2.2.2.2.2
theorem gd_X12_through_288 : decode cX12_through 288 = .ok (.iload 5, 2) ∧ decode cX12_through 290 = .ok (.iaload, 1) ∧ decode cX12_through 291 = .ok (.iastore, 1) ∧ decode cX12_through 292 = .ok (.iconst 0, 1) ∧ decode cX12_through 293 = .ok (.istore 6, 2) ∧ decode cX12_through 295 = .ok (.iload 6, 2) ∧ decode cX12_through 297 = .ok (.aload_n 0, 1) ∧ decode cX12_through 298 = .ok (.getfield 91, 3) ∧ decode cX12_through 301 = .ok (.iload 5, 2) ∧ decode cX12_through 303 = .ok (.iaload, 1) := by decide +kernel
theorem dX12_through_288 : decode cX12_through 288 = .ok (.iload 5, 2) := gd_X12_through_288.1
theorem dX12_through_290 : decode cX12_through 290 = .ok (.iaload, 1) := gd_X12_through_288.2.1
theorem dX12_through_291 : decode cX12_through 291 = .ok (.iastore, 1) := gd_X12_through_288.2.2.1
theorem dX12_through_292 : decode cX12_through 292 = .ok (.iconst 0, 1) := gd_X12_through_288.2.2.2.1
theorem dX12_through_293 : decode cX12_through 293 = .ok (.istore 6, 2) := gd_X12_through_288.2.2.2.2.1
theorem dX12_through_295 : decode cX12_through 295 = .ok (.iload 6, 2) := gd_X12_through_288.2.2.2.2.2.1
theorem dX12_through_297 : decode cX12_through 297 = .ok (.aload_n 0, 1) := gd_X12_through_288.2.2.2.2.2.2.1
theorem dX12_through_298 : decode cX12_through 298 = .ok (.getfield 91, 3) := gd_X12_through_288.2.2.2.2.2.2.2.1
theorem dX12_through_301 : decode cX12_through 301 = .ok (.iload 5, 2) := gd_X12_through_288.2.2.2.2.2.2.2.2.1
theorem dX12_through_303 : decode cX12_through 303 = .ok (.iaload, 1) := gd_X12_through_288.2.2.2.2.2.2.2.2.2
theorem gd_X12_through_304 : decode cX12_through 304 = .ok (.if_icmp .ge 35, 3) ∧ decode cX12_through 307 = .ok (.aload_n 0, 1) ∧ decode cX12_through 308 = .ok (.getfield 82, 3) ∧ decode cX12_through 311 = .ok (.bipush 24, 2) ∧ decode cX12_through 313 = .ok (.iload 5, 2) ∧ decode cX12_through 315 = .ok (.imul, 1) ∧ decode cX12_through 316 = .ok (.iload 6, 2) ∧ decode cX12_through 318 = .ok (.iadd, 1) ∧ decode cX12_through 319 = .ok (.aload_n 0, 1) ∧ decode cX12_through 320 = .ok (.getfield 88, 3) := by decide +kernel
theorem dX12_through_304 : decode cX12_through 304 = .ok (.if_icmp .ge 35, 3) := gd_X12_through_304.1
theorem dX12_through_307 : decode cX12_through 307 = .ok (.aload_n 0, 1) := gd_X12_through_304.2.1
theorem dX12_through_308 : decode cX12_through 308 = .ok (.getfield 82, 3) := gd_X12_through_304.2.2.1
theorem dX12_through_311 : decode cX12_through 311 = .ok (.bipush 24, 2) := gd_X12_through_304.2.2.2.1
theorem dX12_through_313 : decode cX12_through 313 = .ok (.iload 5, 2) := gd_X12_through_304.2.2.2.2.1
theorem dX12_through_315 : decode cX12_through 315 = .ok (.imul, 1) := gd_X12_through_304.2.2.2.2.2.1
theorem dX12_through_316 : decode cX12_through 316 = .ok (.iload 6, 2) := gd_X12_through_304.2.2.2.2.2.2.1
theorem dX12_through_318 : decode cX12_through 318 = .ok (.iadd, 1) := gd_X12_through_304.2.2.2.2.2.2.2.1
theorem dX12_through_319 : decode cX12_through 319 = .ok (.aload_n 0, 1) := gd_X12_through_304.2.2.2.2.2.2.2.2.1
theorem dX12_through_320 : decode cX12_through 320 = .ok (.getfield 88, 3) := gd_X12_through_304.2.2.2.2.2.2.2.2.2
theorem gd_X12_through_323 : decode cX12_through 323 = .ok (.bipush 24, 2) ∧ decode cX12_through 325 = .ok (.iload 5, 2) ∧ decode cX12_through 327 = .ok (.imul, 1) ∧ decode cX12_through 328 = .ok (.iload 6, 2) ∧ decode cX12_through 330 = .ok (.iadd, 1) ∧ decode cX12_through 331 = .ok (.baload, 1) ∧ decode cX12_through 332 = .ok (.bastore, 1) ∧ decode cX12_through 333 = .ok (.iinc 6 1, 3) ∧ decode cX12_through 336 = .ok (.goto (-41), 3) ∧ decode cX12_through 339 = .ok (.iinc 5 1, 3) := by decide +kernel
theorem dX12_through_323 : decode cX12_through 323 = .ok (.bipush 24, 2) := gd_X12_through_323.1
theorem dX12_through_325 : decode cX12_through 325 = .ok (.iload 5, 2) := gd_X12_through_323.2.1
theorem dX12_through_327 : decode cX12_through 327 = .ok (.imul, 1) := gd_X12_through_323.2.2.1
theorem dX12_through_328 : decode cX12_through 328 = .ok (.iload 6, 2) := gd_X12_through_323.2.2.2.1
theorem dX12_through_330 : decode cX12_through 330 = .ok (.iadd, 1) := gd_X12_through_323.2.2.2.2.1
theorem dX12_through_331 : decode cX12_through 331 = .ok (.baload, 1) := gd_X12_through_323.2.2.2.2.2.1
theorem dX12_through_332 : decode cX12_through 332 = .ok (.bastore, 1) := gd_X12_through_323.2.2.2.2.2.2.1
theorem dX12_through_333 : decode cX12_through 333 = .ok (.iinc 6 1, 3) := gd_X12_through_323.2.2.2.2.2.2.2.1
theorem dX12_through_336 : decode cX12_through 336 = .ok (.goto (-41), 3) := gd_X12_through_323.2.2.2.2.2.2.2.2.1
theorem dX12_through_339 : decode cX12_through 339 = .ok (.iinc 5 1, 3) := gd_X12_through_323.2.2.2.2.2.2.2.2.2
theorem gd_X12_through_342 : decode cX12_through 342 = .ok (.goto (-71), 3) ∧ decode cX12_through 345 = .ok (.iinc 3 1, 3) ∧ decode cX12_through 348 = .ok (.goto (-303), 3) ∧ decode cX12_through 351 = .ok (.return_, 1) := by decide +kernel
theorem dX12_through_342 : decode cX12_through 342 = .ok (.goto (-71), 3) := gd_X12_through_342.1
theorem dX12_through_345 : decode cX12_through 345 = .ok (.iinc 3 1, 3) := gd_X12_through_342.2.1
theorem dX12_through_348 : decode cX12_through 348 = .ok (.goto (-303), 3) := gd_X12_through_342.2.2.1
theorem dX12_through_351 : decode cX12_through 351 = .ok (.return_, 1) := gd_X12_through_342.2.2.2
set_option maxHeartbeats 4000000 in
set_option maxRecDepth 100000 in
theorem bm_part {dn : Nat} {p : Program} {l : Launch} {e : Env} {s : State} {m : MethodId} {args : Array Value} {below : List Frame} {meth : Method} {c : Code} {Q : State → Prop} {A : Nat → Prop} {dC : Nat → ClassId} {dI : Nat → Nat → Nat} {h0 : Nat} {kB kI kZ : ClassId} {q : Nat → Nat} {g : Nat → Int32} {F : Nat → Nat → Int32} {H : Heap} {locs : List Loc} {ls : Array Slot} (ihm : ∀ (sz : Nat) (h0 : Nat) (kB kI kZ : ClassId) (q : Nat → Nat) (g : Nat → Int32) (F : Nat → Nat → Int32) (p0 : Int32) (p1 : Int32) (p2 : Int32) (c_g27 : Int32) (c_F24 : (Nat → Int32)) (c_F25 : (Nat → Int32)) (c_F26 : (Nat → Int32)) (hr : f_part dn g F p0 p1 p2 = some (c_g27, c_F24, c_F25, c_F26)), Met l yX12_part vmX12_part ({ frames := 3 + dn, cells := 0, slots := 0, locals := 86 + dn * 24 } : Room) (va_Pc [.ref h0, .int p0, .int p1, .int p2] (fun U => U.heap.size = sz ∧ va_P (dC, dI) vwCl (mW h0 kB kI kZ q g F) U.heap ∧ va_K (dC, dI) vwCl (mT kB kI kZ) U ∧ va_D (fun _ => True) (mW h0 kB kI kZ q g F))) (va_Qv (fun _ : Unit => True) (fun _ t => va_P (dC, dI) vwCl (mW h0 kB kI kZ q (upd g 27 c_g27) (upF (upF (upF F 24 c_F24) 25 c_F25) 26 c_F26)) t.heap ∧ va_K (dC, dI) vwCl (mT kB kI kZ) t ∧ va_D (va_A (mW h0 kB kI kZ q g F) sz) (mW h0 kB kI kZ q (upd g 27 c_g27) (upF (upF (upF F 24 c_F24) 25 c_F25) 26 c_F26))) (va_A (mW h0 kB kI kZ q g F) sz)) 0 0 (va_A (mW h0 kB kI kZ q g F) sz)) (p0 : Int32) (p1 : Int32) (p2 : Int32) (c_g27 : Int32) (c_F24 : (Nat → Int32)) (c_F25 : (Nat → Int32)) (c_F26 : (Nat → Int32)) (hr : F_part (f_part dn) g F p0 p1 p2 = some (c_g27, c_F24, c_F25, c_F26)) (hx : p.tables.exec = Jvm.exec) (hb : c.code = cX12_part) (hml : c.maxLocals = 5) (hown : s.vm.findClass RX12 = some m.cls) (hts : ∀ w ∈ vmX12_part, w.before args s = true) (hA : ∀ q : Nat, s.heap.size ≤ q → A q) (hK : va_K (dC, dI) vwCl (mT kB kI kZ) s) (hP : va_P (dC, dI) vwCl (mW h0 kB kI kZ q g F) H) (hD : va_D A (mW h0 kB kI kZ q g F)) (hS : va_S A s.heap H locs) (hl : lv_has ls 5 [(0, .ref h0), (1, .int p0), (2, .int p1), (3, .int p2)])
    (K : ∀ (pc : Nat) (ls : Array Slot) (c_g27z : Int32) (c_F24z : (Nat → Int32)) (c_F25z : (Nat → Int32)) (c_F26z : (Nat → Int32)) (H : Heap) (locs : List Loc), some (c_g27z, c_F24z, c_F25z, c_F26z) = some (c_g27, c_F24, c_F25, c_F26) → decode cX12_part pc = .ok (.return_, 1) → va_P (dC, dI) vwCl (mW h0 kB kI kZ q (upd g 27 c_g27z) (upF (upF (upF F 24 c_F24z) 25 c_F25z) 26 c_F26z)) H → va_D A (mW h0 kB kI kZ q (upd g 27 c_g27z) (upF (upF (upF F 24 c_F24z) 25 c_F25z) 26 c_F26z)) → va_S A s.heap H locs → W p l e ({ frames := 3 + (dn + 1), cells := 0, slots := 0, locals := 86 + (dn + 1) * 24 } : Room) s m args below meth c H locs 0 0 Q (F0 m pc ls [])) : W p l e ({ frames := 3 + (dn + 1), cells := 0, slots := 0, locals := 86 + (dn + 1) * 24 } : Room) s m args below meth c H locs 0 0 Q (F0 m 0 ls []) := by
  unfold F_part at hr
  refine lv_aload_n hx hb dX12_part_0 rfl (lv_at hl 0 rfl) ?_
  refine va_get (D := (dC, dI)) (ci := 12) (v := .int (g 27)) (C := RX12) (T := TX12) (N := 71) hx hb hts inX12 hown hK hP 0 rfl rfl 27 (by decide) (hts (.fieldLink RX12 241 "SpellTurnerModel" "wayMany" "I") im_134) (fun _ h9 => h9) rfl dX12_part_1 ?_
  refine lv_bipush (v := 30) hx hb dX12_part_4 (by decide +kernel) ?_
  refine lv_icmp_ne (tgt := 10) hx hb dX12_part_6 (by decide) (fun c6 => ?_) (fun c6 => ?_)
  · replace hr := iteF c6 hr
    refine lv_iload_n hx hb dX12_part_10 rfl (lv_at hl 2 rfl) ?_
    refine lv_aload_n hx hb dX12_part_11 rfl (lv_at hl 0 rfl) ?_
    refine va_get (D := (dC, dI)) (ci := 12) (v := .int (g 23)) (C := RX12) (T := TX12) (N := 71) hx hb hts inX12 hown hK hP 0 rfl rfl 23 (by decide) (hts (.fieldLink RX12 244 "SpellTurnerModel" "letters" "I") im_49) (fun _ h9 => h9) rfl dX12_part_12 ?_
    refine lv_icmp_ne (tgt := 76) hx hb dX12_part_15 (by decide) (fun c15 => ?_) (fun c15 => ?_)
    · replace hr := iteF c15 hr
      refine lv_iconst (v := 1) hx hb dX12_part_76 (by decide +kernel) ?_
      refine lv_istore (lv' := [(4, .int 1), (0, .ref h0), (1, .int p0), (2, .int p1), (3, .int p2)]) hx hb dX12_part_77 hl (by decide) rfl (fun ls hl => ?_)
      replace hr := jnS hr
      obtain ⟨k149, hk149, hr⟩ := hr
      have Jk149 : ∀ (c149_g27 : Int32) (c149_F24 : (Nat → Int32)) (c149_F25 : (Nat → Int32)) (c149_F26 : (Nat → Int32)) (H : Heap) (locs : List Loc) (ls : Array Slot), k149 c149_g27 c149_F24 c149_F25 c149_F26 = some (c_g27, c_F24, c_F25, c_F26) → va_P (dC, dI) vwCl (mW h0 kB kI kZ q (upd g 27 c149_g27) (upF (upF (upF F 24 c149_F24) 25 c149_F25) 26 c149_F26)) H → va_D A (mW h0 kB kI kZ q (upd g 27 c149_g27) (upF (upF (upF F 24 c149_F24) 25 c149_F25) 26 c149_F26)) → va_S A s.heap H locs → lv_has ls 5 [] → W p l e ({ frames := 3 + (dn + 1), cells := 0, slots := 0, locals := 86 + (dn + 1) * 24 } : Room) s m args below meth c H locs 0 0 Q (F0 m 149 ls []) := by
        intro c149_g27 c149_F24 c149_F25 c149_F26 H locs ls hr hP hD hS hl
        rw [hk149] at hr
        first | exact K 149 ls _ _ _ _ H _ hr dX12_part_149 (sP_eq (mW_cg (by repeat (first | with_reducible rfl | with_reducible refine upd_cg ?_ | refine Eq.trans ?_ (upd_id rfl))) (by repeat (first | with_reducible rfl | with_reducible refine upF_cg ?_ | refine Eq.trans ?_ (upF_id rfl)))) hP) (sD_eq (mW_cg (by repeat (first | with_reducible rfl | with_reducible refine upd_cg ?_ | refine Eq.trans ?_ (upd_id rfl))) (by repeat (first | with_reducible rfl | with_reducible refine upF_cg ?_ | refine Eq.trans ?_ (upF_id rfl)))) hD) hS | exact K 149 ls _ _ _ _ H _ hr dX12_part_149 hP hD hS
      have lp79 : ∀ (n79 : Nat) (y79_4 : Int32) (d79_g27 : Int32) (d79_F24 : (Nat → Int32)) (d79_F25 : (Nat → Int32)) (d79_F26 : (Nat → Int32)) (H : Heap) (locs : List Loc) (ls : Array Slot), L_part_79 (f_part dn) g F p0 p1 p2 k149 n79 y79_4 d79_g27 d79_F24 d79_F25 d79_F26 = some (c_g27, c_F24, c_F25, c_F26) → va_P (dC, dI) vwCl (mW h0 kB kI kZ q (upd g 27 d79_g27) (upF (upF (upF F 24 d79_F24) 25 d79_F25) 26 d79_F26)) H → va_D A (mW h0 kB kI kZ q (upd g 27 d79_g27) (upF (upF (upF F 24 d79_F24) 25 d79_F25) 26 d79_F26)) → va_S A s.heap H locs → lv_has ls 5 [(0, .ref h0), (1, .int p0), (2, .int p1), (3, .int p2), (4, .int y79_4)] → W p l e ({ frames := 3 + (dn + 1), cells := 0, slots := 0, locals := 86 + (dn + 1) * 24 } : Room) s m args below meth c H locs 0 0 Q (F0 m 79 ls []) := by
        intro n79
        induction n79 with
        | zero => intro y79_4 d79_g27 d79_F24 d79_F25 d79_F26 H locs ls hr; exact nomatch (show none = some (c_g27, c_F24, c_F25, c_F26) from hr)
        | succ n79 ih79 =>
          intro y79_4 d79_g27 d79_F24 d79_F25 d79_F26 H locs ls hr hP hD hS hl
          replace hr : B_part_79 (f_part dn) g F p0 p1 p2 k149 (L_part_79 (f_part dn) g F p0 p1 p2 k149 n79) y79_4 d79_g27 d79_F24 d79_F25 d79_F26 = some (c_g27, c_F24, c_F25, c_F26) := hr
          unfold B_part_79 at hr
          refine lv_iload hx hb dX12_part_79 (lv_at hl 4 rfl) ?_
          refine lv_bipush (v := 16) hx hb dX12_part_81 (by decide +kernel) ?_
          refine lv_icmp_gt (tgt := 149) hx hb dX12_part_83 (by decide) (fun c83 => ?_) (fun c83 => ?_)
          · replace hr := iteT c83 hr
            exact Jk149 d79_g27 d79_F24 d79_F25 d79_F26 H _ ls hr hP hD hS (lv_sub hl [] rfl)
          · replace hr := iteF c83 hr
            refine lv_iload_n hx hb dX12_part_86 rfl (lv_at hl 2 rfl) ?_
            refine lv_iload hx hb dX12_part_87 (lv_at hl 4 rfl) ?_
            refine lv_iadd hx hb dX12_part_89 ?_
            refine lv_aload_n hx hb dX12_part_90 rfl (lv_at hl 0 rfl) ?_
            refine va_get (D := (dC, dI)) (ci := 12) (v := .int (g 23)) (C := RX12) (T := TX12) (N := 71) hx hb hts inX12 hown hK hP 0 rfl rfl 23 (by decide) (hts (.fieldLink RX12 244 "SpellTurnerModel" "letters" "I") im_49) (fun _ h9 => h9) rfl dX12_part_91 ?_
            refine lv_icmp_gt (tgt := 149) hx hb dX12_part_94 (by decide) (fun c94 => ?_) (fun c94 => ?_)
            · replace hr := iteT c94 hr
              exact Jk149 d79_g27 d79_F24 d79_F25 d79_F26 H _ ls hr hP hD hS (lv_sub hl [] rfl)
            · replace hr := iteF c94 hr
              refine lv_aload_n hx hb dX12_part_97 rfl (lv_at hl 0 rfl) ?_
              refine va_get (D := (dC, dI)) (ci := 12) (v := .ref (q 28)) (C := RX12) (T := TX12) (N := 71) hx hb hts inX12 hown hK hP 0 rfl rfl 28 (by decide) (hts (.fieldLink RX12 67 "SpellTurnerModel" "canEnd" "[Z") im_135) (fun _ h9 => h9) rfl dX12_part_98 ?_
              refine lv_iload_n hx hb dX12_part_101 rfl (lv_at hl 2 rfl) ?_
              refine lv_iload hx hb dX12_part_102 (lv_at hl 4 rfl) ?_
              refine lv_iadd hx hb dX12_part_104 ?_
              replace hr := iteS hr
              obtain ⟨hi105, hr⟩ := hr
              refine va_zald (f := (F 28)) hx hb hK hP 18 2 rfl rfl (inbV hi105) dX12_part_105 ?_
              replace hr := jnS hr
              obtain ⟨j143, hj143, hr⟩ := hr
              have Jj143 : ∀ (c143_g27 : Int32) (c143_F24 : (Nat → Int32)) (c143_F25 : (Nat → Int32)) (c143_F26 : (Nat → Int32)) (H : Heap) (locs : List Loc) (ls : Array Slot), j143 c143_g27 c143_F24 c143_F25 c143_F26 = some (c_g27, c_F24, c_F25, c_F26) → va_P (dC, dI) vwCl (mW h0 kB kI kZ q (upd g 27 c143_g27) (upF (upF (upF F 24 c143_F24) 25 c143_F25) 26 c143_F26)) H → va_D A (mW h0 kB kI kZ q (upd g 27 c143_g27) (upF (upF (upF F 24 c143_F24) 25 c143_F25) 26 c143_F26)) → va_S A s.heap H locs → lv_has ls 5 [(0, .ref h0), (1, .int p0), (2, .int p1), (3, .int p2), (4, .int y79_4)] → W p l e ({ frames := 3 + (dn + 1), cells := 0, slots := 0, locals := 86 + (dn + 1) * 24 } : Room) s m args below meth c H locs 0 0 Q (F0 m 143 ls []) := by
                intro c143_g27 c143_F24 c143_F25 c143_F26 H locs ls hr hP hD hS hl
                rw [hj143] at hr
                refine lv_iinc (v := (y79_4 + 1)) (lv' := [(4, .int (y79_4 + 1)), (0, .ref h0), (1, .int p0), (2, .int p1), (3, .int p2)]) hx hb dX12_part_143 hl (k := 4) rfl rfl (by decide) rfl (fun ls hl => ?_)
                refine lv_goto (tgt := 79) hx hb dX12_part_146 (by decide) ?_
                exact ih79 (y79_4 + 1) c143_g27 c143_F24 c143_F25 c143_F26 H _ ls hr hP hD hS (lv_sub hl [1, 2, 3, 4, 0] rfl)
              refine lv_if_eq (tgt := 143) hx hb dX12_part_106 (by decide) (fun c106 => ?_) (fun c106 => ?_)
              · replace hr := iteT c106 hr
                exact Jj143 d79_g27 d79_F24 d79_F25 d79_F26 H _ ls hr hP hD hS (lv_sub hl [0, 1, 2, 3, 4] rfl)
              · replace hr := iteF c106 hr
                refine lv_aload_n hx hb dX12_part_109 rfl (lv_at hl 0 rfl) ?_
                refine lv_iload_n hx hb dX12_part_110 rfl (lv_at hl 1 rfl) ?_
                refine lv_iload_n hx hb dX12_part_111 rfl (lv_at hl 2 rfl) ?_
                refine lv_iload hx hb dX12_part_112 (lv_at hl 4 rfl) ?_
                replace hr := b1S hr
                obtain ⟨r114z, hc114, hr⟩ := hr
                have hFc := fr_all hD hS hA
                refine va_calli (va_runV (As := [.int p0, .int p1, .int y79_4]) (rest := []) ⟨hx, hb, hml, hown, hts⟩ (m_isWordPart l dC dI H.size h0 kB kI kZ q (upd g 27 d79_g27) (upF (upF (upF F 24 d79_F24) 25 d79_F25) 26 d79_F26) p0 p1 y79_4 r114z hc114) (cwV 3 hts gw_X12_isWordPart_247 rfl rfl rfl (by decide +kernel) ⟨by dsimp only; omega, by dsimp only; omega⟩) ⟨fun a U g mk q => by obtain ⟨q0, q1, qP, qK, qD⟩ := q; exact ⟨q0, q1, qP, va_K.moved (u := U) (U := U.calling g mk a) (Vm.Alike.refl U.vm) qK, qD⟩, va_recv hK hP (ci := 12) (q0 := 0) rfl rfl, fun U hU hW => ⟨rfl, by rw [hU], by rw [hU]; exact hP, va_K.moved hW.alike hK, hD.weaken (fun _ _ _ _ => trivial)⟩⟩ rfl rfl hl.1 rfl (lv_room (Nat.le_of_ble_eq_true rfl)) dX12_part_114 ⟨Nat.le_of_ble_eq_true rfl, Nat.le_of_ble_eq_true rfl⟩) hS (fun q _ h => hFc q h) hFc (fun r114 u t H1 locs ht hvm hw hB hz1 hk1 hS => ?_)
                replace hw : r114 = r114z := hw
                subst hw
                obtain ⟨hP1, hK1, hD1⟩ := hB
                rw [ht] at hP1
                obtain ⟨hP, hD⟩ := jn_all (w1 := (mW h0 kB kI kZ q (upd g 27 d79_g27) (upF (upF (upF F 24 d79_F24) 25 d79_F25) 26 d79_F26))) hFc hP1 hD1
                clear hFc hP1 hK1 hD1 hk1 hz1 ht hvm
                generalize H1 = H at hP hS ⊢
                have hP : va_P (dC, dI) vwCl (mW h0 kB kI kZ q (upd g 27 d79_g27) (upF (upF (upF F 24 d79_F24) 25 d79_F25) 26 d79_F26)) H := hP
                have hD : va_D A (mW h0 kB kI kZ q (upd g 27 d79_g27) (upF (upF (upF F 24 d79_F24) 25 d79_F25) 26 d79_F26)) := hD
                refine lv_if_ne (tgt := 123) hx hb dX12_part_117 (by decide) (fun c117 => ?_) (fun c117 => ?_)
                · replace hr := iteF c117 hr
                  refine lv_aload_n hx hb dX12_part_123 rfl (lv_at hl 0 rfl) ?_
                  refine va_get (D := (dC, dI)) (ci := 12) (v := .ref (q 24)) (C := RX12) (T := TX12) (N := 71) hx hb hts inX12 hown hK hP 0 rfl rfl 24 (by decide) (hts (.fieldLink RX12 58 "SpellTurnerModel" "lengths" "[I") im_139) (fun _ h9 => h9) rfl dX12_part_124 ?_
                  refine lv_iload_n hx hb dX12_part_127 rfl (lv_at hl 3 rfl) ?_
                  refine lv_iload hx hb dX12_part_128 (lv_at hl 4 rfl) ?_
                  replace hr := iteS hr
                  obtain ⟨hi130, hr⟩ := hr
                  refine va_iast (f := d79_F24) hx hb hK hP hD hS 15 1 rfl rfl (inbV hi130) dX12_part_130 (fun H locs hP hD hS => ?_)
                  obtain ⟨w130, ew130, hP, hD⟩ : ∃ w130 : Nat → Int32, w130 = (upd d79_F24 (Int32.toNatClampNeg p2) y79_4) ∧ va_P (dC, dI) vwCl (mW h0 kB kI kZ q (upd g 27 d79_g27) (upF (upF (upF F 24 w130) 25 d79_F25) 26 d79_F26)) H ∧ va_D A (mW h0 kB kI kZ q (upd g 27 d79_g27) (upF (upF (upF F 24 w130) 25 d79_F25) 26 d79_F26)) := ⟨(upd d79_F24 (Int32.toNatClampNeg p2) y79_4), rfl, by first | exact sP_F24 hP (upF_in (by decide) (upF_in (by decide) upF_same)) | exact sP_F24 hP (upF_in (by decide) (upF_in (by decide) rfl)) | exact hP, by first | exact sD_F24 hD (upF_in (by decide) (upF_in (by decide) upF_same)) | exact sD_F24 hD (upF_in (by decide) (upF_in (by decide) rfl)) | exact hD⟩
                  replace hr := vlS hr w130 ew130
                  clear ew130
                  refine lv_aload_n hx hb dX12_part_131 rfl (lv_at hl 0 rfl) ?_
                  refine lv_iload_n hx hb dX12_part_132 rfl (lv_at hl 1 rfl) ?_
                  refine lv_iload_n hx hb dX12_part_133 rfl (lv_at hl 2 rfl) ?_
                  refine lv_iload hx hb dX12_part_134 (lv_at hl 4 rfl) ?_
                  refine lv_iadd hx hb dX12_part_136 ?_
                  refine lv_iload_n hx hb dX12_part_137 rfl (lv_at hl 3 rfl) ?_
                  refine lv_iconst (v := 1) hx hb dX12_part_138 (by decide +kernel) ?_
                  refine lv_iadd hx hb dX12_part_139 ?_
                  replace hr := b4S hr
                  obtain ⟨c140_g27, c140_F24, c140_F25, c140_F26, hc140, hr⟩ := hr
                  have hFc := fr_all hD hS hA
                  refine va_callv (va_runV (As := [.int p0, .int (p1 + y79_4), .int (p2 + 1)]) (rest := []) ⟨hx, hb, hml, hown, hts⟩ (ihm H.size h0 kB kI kZ q (upd g 27 d79_g27) (upF (upF (upF F 24 w130) 25 d79_F25) 26 d79_F26) p0 (p1 + y79_4) (p2 + 1) c140_g27 c140_F24 c140_F25 c140_F26 hc140) (cwV 3 hts gw_X12_part_250 rfl rfl rfl (by decide +kernel) ⟨by dsimp only; omega, by dsimp only; omega⟩) ⟨fun a U g mk q => by obtain ⟨q0, q1, qP, qK, qD⟩ := q; exact ⟨q0, q1, qP, va_K.moved (u := U) (U := U.calling g mk a) (Vm.Alike.refl U.vm) qK, qD⟩, va_recv hK hP (ci := 12) (q0 := 0) rfl rfl, fun U hU hW => ⟨rfl, by rw [hU], by rw [hU]; exact hP, va_K.moved hW.alike hK, hD.weaken (fun _ _ _ _ => trivial)⟩⟩ rfl rfl hl.1 rfl (lv_room (Nat.le_of_ble_eq_true rfl)) dX12_part_140 ⟨Nat.le_of_ble_eq_true rfl, Nat.le_of_ble_eq_true rfl⟩) hS (fun q _ h => hFc q h) hFc (fun u t H1 locs ht hvm hw hB hz1 hk1 hS => ?_)
                  obtain ⟨hP1, hK1, hD1⟩ := hB
                  rw [ht] at hP1
                  obtain ⟨hP, hD⟩ := jn_all (w1 := (mW h0 kB kI kZ q (upd g 27 c140_g27) (upF (upF (upF F 24 c140_F24) 25 c140_F25) 26 c140_F26))) hFc hP1 hD1
                  clear hFc hP1 hK1 hD1 hk1 hz1 ht hvm
                  generalize H1 = H at hP hS ⊢
                  have hP : va_P (dC, dI) vwCl (mW h0 kB kI kZ q (upd g 27 c140_g27) (upF (upF (upF F 24 c140_F24) 25 c140_F25) 26 c140_F26)) H := hP
                  have hD : va_D A (mW h0 kB kI kZ q (upd g 27 c140_g27) (upF (upF (upF F 24 c140_F24) 25 c140_F25) 26 c140_F26)) := hD
                  exact Jj143 c140_g27 c140_F24 c140_F25 c140_F26 H _ ls hr hP hD hS (lv_sub hl [0, 1, 2, 3, 4] rfl)
                · replace hr := iteT c117 hr
                  refine lv_goto (tgt := 143) hx hb dX12_part_120 (by decide) ?_
                  exact Jj143 d79_g27 d79_F24 d79_F25 d79_F26 H _ ls hr hP hD hS (lv_sub hl [0, 1, 2, 3, 4] rfl)
      first | exact lp79 NN 1 (g 27) (F 24) (F 25) (F 26) H _ ls hr (sP_eq (mW_cg (by repeat (first | with_reducible rfl | with_reducible refine upd_cg ?_ | refine Eq.trans ?_ (upd_id rfl))) (by repeat (first | with_reducible rfl | with_reducible refine upF_cg ?_ | refine Eq.trans ?_ (upF_id rfl)))) hP) (sD_eq (mW_cg (by repeat (first | with_reducible rfl | with_reducible refine upd_cg ?_ | refine Eq.trans ?_ (upd_id rfl))) (by repeat (first | with_reducible rfl | with_reducible refine upF_cg ?_ | refine Eq.trans ?_ (upF_id rfl)))) hD) hS (lv_sub hl [1, 2, 3, 4, 0] rfl) | exact lp79 NN 1 (g 27) (F 24) (F 25) (F 26) H _ ls hr hP hD hS (lv_sub hl [1, 2, 3, 4, 0] rfl)
    · replace hr := iteT c15 hr
      refine lv_iconst (v := 0) hx hb dX12_part_18 (by decide +kernel) ?_
      refine lv_istore (lv' := [(4, .int 0), (0, .ref h0), (1, .int p0), (2, .int p1), (3, .int p2)]) hx hb dX12_part_19 hl (by decide) rfl (fun ls hl => ?_)
      replace hr := jnS hr
      obtain ⟨k55, hk55, hr⟩ := hr
      have Jk55 : ∀ (c55_F25 : (Nat → Int32)) (H : Heap) (locs : List Loc) (ls : Array Slot), k55 c55_F25 = some (c_g27, c_F24, c_F25, c_F26) → va_P (dC, dI) vwCl (mW h0 kB kI kZ q g (upF F 25 c55_F25)) H → va_D A (mW h0 kB kI kZ q g (upF F 25 c55_F25)) → va_S A s.heap H locs → lv_has ls 5 [(0, .ref h0), (3, .int p2)] → W p l e ({ frames := 3 + (dn + 1), cells := 0, slots := 0, locals := 86 + (dn + 1) * 24 } : Room) s m args below meth c H locs 0 0 Q (F0 m 55 ls []) := by
        intro c55_F25 H locs ls hr hP hD hS hl
        rw [hk55] at hr
        refine lv_aload_n hx hb dX12_part_55 rfl (lv_at hl 0 rfl) ?_
        refine va_get (D := (dC, dI)) (ci := 12) (v := .ref (q 26)) (C := RX12) (T := TX12) (N := 71) hx hb hts inX12 hown hK hP 0 rfl rfl 26 (by decide) (hts (.fieldLink RX12 64 "SpellTurnerModel" "wayParts" "[I") im_143) (fun _ h9 => h9) rfl dX12_part_56 ?_
        refine lv_aload_n hx hb dX12_part_59 rfl (lv_at hl 0 rfl) ?_
        refine va_get (D := (dC, dI)) (ci := 12) (v := .int (g 27)) (C := RX12) (T := TX12) (N := 71) hx hb hts inX12 hown hK hP 0 rfl rfl 27 (by decide) (hts (.fieldLink RX12 241 "SpellTurnerModel" "wayMany" "I") im_134) (fun _ h9 => h9) rfl dX12_part_60 ?_
        refine lv_iload_n hx hb dX12_part_63 rfl (lv_at hl 1 rfl) ?_
        replace hr := iteS hr
        obtain ⟨hi64, hr⟩ := hr
        refine va_iast (f := (F 26)) hx hb hK hP hD hS 17 1 rfl rfl (inbV hi64) dX12_part_64 (fun H locs hP hD hS => ?_)
        obtain ⟨w64, ew64, hP, hD⟩ : ∃ w64 : Nat → Int32, w64 = (upd (F 26) (Int32.toNatClampNeg (g 27)) p2) ∧ va_P (dC, dI) vwCl (mW h0 kB kI kZ q g (upF (upF F 25 c55_F25) 26 w64)) H ∧ va_D A (mW h0 kB kI kZ q g (upF (upF F 25 c55_F25) 26 w64)) := ⟨(upd (F 26) (Int32.toNatClampNeg (g 27)) p2), rfl, by first | exact sP_F26 hP rfl | exact sP_F26 hP upF_same | exact hP, by first | exact sD_F26 hD rfl | exact sD_F26 hD upF_same | exact hD⟩
        replace hr := vlS hr w64 ew64
        clear ew64
        refine lv_aload_n hx hb dX12_part_65 rfl (lv_at hl 0 rfl) ?_
        refine lv_dup hx hb dX12_part_66 rfl ?_
        refine va_get (D := (dC, dI)) (ci := 12) (v := .int (g 27)) (C := RX12) (T := TX12) (N := 71) hx hb hts inX12 hown hK hP 0 rfl rfl 27 (by decide) (hts (.fieldLink RX12 241 "SpellTurnerModel" "wayMany" "I") im_134) (fun _ h9 => h9) rfl dX12_part_67 ?_
        refine lv_iconst (v := 1) hx hb dX12_part_70 (by decide +kernel) ?_
        refine lv_iadd hx hb dX12_part_71 ?_
        refine lv_topi (fun x72 ex72 => ?_)
        replace hr := vlS hr x72 ex72
        clear ex72
        refine va_put (D := (dC, dI)) (ci := 12) (v := .int x72) (ty := .int) (C := RX12) (T := TX12) (N := 71) hx hb hts inX12 tyX12 tyX12_ok nmX12 hown hK hP hD hS 0 rfl rfl 27 (by decide) (hts (.fieldLink RX12 241 "SpellTurnerModel" "wayMany" "I") im_134) (fun _ h9 => h9) rfl (by decide +kernel) rfl rfl (Nat.le_of_ble_eq_true rfl) dX12_part_72 (fun H locs hP hD hS => ?_)
        have hP : va_P (dC, dI) vwCl (mW h0 kB kI kZ q (upd g 27 x72) (upF (upF F 25 c55_F25) 26 w64)) H := by first | exact sP_g27 hP rfl | exact sP_g27 hP upd_same | exact hP
        have hD : va_D A (mW h0 kB kI kZ q (upd g 27 x72) (upF (upF F 25 c55_F25) 26 w64)) := by first | exact sD_g27 hD rfl | exact sD_g27 hD upd_same | exact hD
        first | exact K 75 ls _ _ _ _ H _ hr dX12_part_75 (sP_eq (mW_cg (by repeat (first | with_reducible rfl | with_reducible refine upd_cg ?_ | refine Eq.trans ?_ (upd_id rfl))) (by repeat (first | with_reducible rfl | with_reducible refine upF_cg ?_ | refine Eq.trans ?_ (upF_id rfl)))) hP) (sD_eq (mW_cg (by repeat (first | with_reducible rfl | with_reducible refine upd_cg ?_ | refine Eq.trans ?_ (upd_id rfl))) (by repeat (first | with_reducible rfl | with_reducible refine upF_cg ?_ | refine Eq.trans ?_ (upF_id rfl)))) hD) hS | exact K 75 ls _ _ _ _ H _ hr dX12_part_75 hP hD hS
      have lp21 : ∀ (n21 : Nat) (y21_4 : Int32) (d21_F25 : (Nat → Int32)) (H : Heap) (locs : List Loc) (ls : Array Slot), L_part_21 g F p2 k55 n21 y21_4 d21_F25 = some (c_g27, c_F24, c_F25, c_F26) → va_P (dC, dI) vwCl (mW h0 kB kI kZ q g (upF F 25 d21_F25)) H → va_D A (mW h0 kB kI kZ q g (upF F 25 d21_F25)) → va_S A s.heap H locs → lv_has ls 5 [(0, .ref h0), (3, .int p2), (4, .int y21_4)] → W p l e ({ frames := 3 + (dn + 1), cells := 0, slots := 0, locals := 86 + (dn + 1) * 24 } : Room) s m args below meth c H locs 0 0 Q (F0 m 21 ls []) := by
        intro n21
        induction n21 with
        | zero => intro y21_4 d21_F25 H locs ls hr; exact nomatch (show none = some (c_g27, c_F24, c_F25, c_F26) from hr)
        | succ n21 ih21 =>
          intro y21_4 d21_F25 H locs ls hr hP hD hS hl
          replace hr : B_part_21 g F p2 k55 (L_part_21 g F p2 k55 n21) y21_4 d21_F25 = some (c_g27, c_F24, c_F25, c_F26) := hr
          unfold B_part_21 at hr
          refine lv_iload hx hb dX12_part_21 (lv_at hl 2 rfl) ?_
          refine lv_iload_n hx hb dX12_part_23 rfl (lv_at hl 1 rfl) ?_
          refine lv_icmp_ge (tgt := 55) hx hb dX12_part_24 (by decide) (fun c24 => ?_) (fun c24 => ?_)
          · replace hr := iteT c24 hr
            exact Jk55 d21_F25 H _ ls hr hP hD hS (lv_sub hl [0, 1] rfl)
          · replace hr := iteF c24 hr
            refine lv_aload_n hx hb dX12_part_27 rfl (lv_at hl 0 rfl) ?_
            refine va_get (D := (dC, dI)) (ci := 12) (v := .ref (q 25)) (C := RX12) (T := TX12) (N := 71) hx hb hts inX12 hown hK hP 0 rfl rfl 25 (by decide) (hts (.fieldLink RX12 61 "SpellTurnerModel" "ways" "[I") im_144) (fun _ h9 => h9) rfl dX12_part_28 ?_
            refine lv_bipush (v := 24) hx hb dX12_part_31 (by decide +kernel) ?_
            refine lv_aload_n hx hb dX12_part_33 rfl (lv_at hl 0 rfl) ?_
            refine va_get (D := (dC, dI)) (ci := 12) (v := .int (g 27)) (C := RX12) (T := TX12) (N := 71) hx hb hts inX12 hown hK hP 0 rfl rfl 27 (by decide) (hts (.fieldLink RX12 241 "SpellTurnerModel" "wayMany" "I") im_134) (fun _ h9 => h9) rfl dX12_part_34 ?_
            refine lv_imul hx hb dX12_part_37 ?_
            refine lv_iload hx hb dX12_part_38 (lv_at hl 2 rfl) ?_
            refine lv_iadd hx hb dX12_part_40 ?_
            refine lv_aload_n hx hb dX12_part_41 rfl (lv_at hl 0 rfl) ?_
            refine va_get (D := (dC, dI)) (ci := 12) (v := .ref (q 24)) (C := RX12) (T := TX12) (N := 71) hx hb hts inX12 hown hK hP 0 rfl rfl 24 (by decide) (hts (.fieldLink RX12 58 "SpellTurnerModel" "lengths" "[I") im_139) (fun _ h9 => h9) rfl dX12_part_42 ?_
            refine lv_iload hx hb dX12_part_45 (lv_at hl 2 rfl) ?_
            replace hr := iteS hr
            obtain ⟨hi47, hr⟩ := hr
            refine va_iald (f := (F 24)) hx hb hK hP 15 1 rfl rfl (inbV hi47) dX12_part_47 ?_
            replace hr := iteS hr
            obtain ⟨hi48, hr⟩ := hr
            refine va_iast (f := d21_F25) hx hb hK hP hD hS 16 1 rfl rfl (inbV hi48) dX12_part_48 (fun H locs hP hD hS => ?_)
            obtain ⟨w48, ew48, hP, hD⟩ : ∃ w48 : Nat → Int32, w48 = (upd d21_F25 (Int32.toNatClampNeg ((24 * (g 27)) + y21_4)) ((F 24) (Int32.toNatClampNeg y21_4))) ∧ va_P (dC, dI) vwCl (mW h0 kB kI kZ q g (upF F 25 w48)) H ∧ va_D A (mW h0 kB kI kZ q g (upF F 25 w48)) := ⟨(upd d21_F25 (Int32.toNatClampNeg ((24 * (g 27)) + y21_4)) ((F 24) (Int32.toNatClampNeg y21_4))), rfl, by first | exact sP_F25 hP upF_same | exact sP_F25 hP rfl | exact hP, by first | exact sD_F25 hD upF_same | exact sD_F25 hD rfl | exact hD⟩
            replace hr := vlS hr w48 ew48
            clear ew48
            refine lv_iinc (v := (y21_4 + 1)) (lv' := [(4, .int (y21_4 + 1)), (0, .ref h0), (3, .int p2)]) hx hb dX12_part_49 hl (k := 2) rfl rfl (by decide) rfl (fun ls hl => ?_)
            refine lv_goto (tgt := 21) hx hb dX12_part_52 (by decide) ?_
            exact ih21 (y21_4 + 1) w48 H _ ls hr hP hD hS (lv_sub hl [1, 2, 0] rfl)
      first | exact lp21 NN 0 (F 25) H _ ls hr (sP_eq (mW_cg (by repeat (first | with_reducible rfl | with_reducible refine upd_cg ?_ | refine Eq.trans ?_ (upd_id rfl))) (by repeat (first | with_reducible rfl | with_reducible refine upF_cg ?_ | refine Eq.trans ?_ (upF_id rfl)))) hP) (sD_eq (mW_cg (by repeat (first | with_reducible rfl | with_reducible refine upd_cg ?_ | refine Eq.trans ?_ (upd_id rfl))) (by repeat (first | with_reducible rfl | with_reducible refine upF_cg ?_ | refine Eq.trans ?_ (upF_id rfl)))) hD) hS (lv_sub hl [1, 4, 0] rfl) | exact lp21 NN 0 (F 25) H _ ls hr hP hD hS (lv_sub hl [1, 4, 0] rfl)
  · replace hr := iteT c6 hr
    first | exact K 9 ls _ _ _ _ H _ hr dX12_part_9 (sP_eq (mW_cg (by repeat (first | with_reducible rfl | with_reducible refine upd_cg ?_ | refine Eq.trans ?_ (upd_id rfl))) (by repeat (first | with_reducible rfl | with_reducible refine upF_cg ?_ | refine Eq.trans ?_ (upF_id rfl)))) hP) (sD_eq (mW_cg (by repeat (first | with_reducible rfl | with_reducible refine upd_cg ?_ | refine Eq.trans ?_ (upd_id rfl))) (by repeat (first | with_reducible rfl | with_reducible refine upF_cg ?_ | refine Eq.trans ?_ (upF_id rfl)))) hD) hS | exact K 9 ls _ _ _ _ H _ hr dX12_part_9 hP hD hS
set_option maxHeartbeats 4000000 in
set_option maxRecDepth 100000 in
theorem m_part (l : Launch) (dC : Nat → ClassId) (dI : Nat → Nat → Nat) (dn : Nat) : ∀ (sz : Nat) (h0 : Nat) (kB kI kZ : ClassId) (q : Nat → Nat) (g : Nat → Int32) (F : Nat → Nat → Int32) (p0 : Int32) (p1 : Int32) (p2 : Int32) (c_g27 : Int32) (c_F24 : (Nat → Int32)) (c_F25 : (Nat → Int32)) (c_F26 : (Nat → Int32)) (hr : f_part dn g F p0 p1 p2 = some (c_g27, c_F24, c_F25, c_F26)), Met l yX12_part vmX12_part ({ frames := 3 + dn, cells := 0, slots := 0, locals := 86 + dn * 24 } : Room) (va_Pc [.ref h0, .int p0, .int p1, .int p2] (fun U => U.heap.size = sz ∧ va_P (dC, dI) vwCl (mW h0 kB kI kZ q g F) U.heap ∧ va_K (dC, dI) vwCl (mT kB kI kZ) U ∧ va_D (fun _ => True) (mW h0 kB kI kZ q g F))) (va_Qv (fun _ : Unit => True) (fun _ t => va_P (dC, dI) vwCl (mW h0 kB kI kZ q (upd g 27 c_g27) (upF (upF (upF F 24 c_F24) 25 c_F25) 26 c_F26)) t.heap ∧ va_K (dC, dI) vwCl (mT kB kI kZ) t ∧ va_D (va_A (mW h0 kB kI kZ q g F) sz) (mW h0 kB kI kZ q (upd g 27 c_g27) (upF (upF (upF F 24 c_F24) 25 c_F25) 26 c_F26))) (va_A (mW h0 kB kI kZ q g F) sz)) 0 0 (va_A (mW h0 kB kI kZ q g F) sz) := by
  induction dn with
  | zero => intro sz h0 kB kI kZ q g F p0 p1 p2 c_g27 c_F24 c_F25 c_F26 hr; exact nomatch (show none = some (c_g27, c_F24, c_F25, c_F26) from hr)
  | succ dn ihm =>
  intro sz h0 kB kI kZ q g F p0 p1 p2 c_g27 c_F24 c_F25 c_F26 hr
  replace hr : F_part (f_part dn) g F p0 p1 p2 = some (c_g27, c_F24, c_F25, c_F26) := hr
  refine Met.ofW (cc := cX12_part) (maxL := 5) (ret := none) (by decide) rfl ?_
  intro p e s m args below meth c s₁ B hml hv
  obtain ⟨rfl, hsz, hP, hK, hD0⟩ := hv
  have hx := B.exec
  have hb := B.bytes
  have hrt := B.returns
  have hts := atoms_spec (ws := vmX12_part) B.pre
  have hown : s.vm.findClass RX12 = some m.cls := findClass_of_methodNamed B.named
  subst hsz
  have hD := hD0.self (sz := s.heap.size)
  generalize hAe : va_A (mW h0 kB kI kZ q g F) s.heap.size = A at hD ⊢
  have hA : ∀ q : Nat, s.heap.size ≤ q → A q := fun q h => by rw [← hAe]; exact Or.inr h
  have hS : va_S A s.heap s.heap [] := va_S.rf
  have hl := lv_entry ([.ref h0, .int p0, .int p1, .int p2]) (n := 5) (Nat.le_of_ble_eq_true rfl)
  rw [lg_entry_eq]
  generalize (lg_sl ([.ref h0, .int p0, .int p1, .int p2]) ++ List.replicate (5 - (lg_sl ([.ref h0, .int p0, .int p1, .int p2])).length) Slot.unset).toArray = ls at hl ⊢
  exact bm_part ihm p0 p1 p2 c_g27 c_F24 c_F25 c_F26 hr hx hb hml hown hts hA hK hP hD hS hl (fun pc ls c_g27z c_F24z c_F25z c_F26z H locs he hd hP hD hS => by cases he; exact W.vret hx hb hrt (fun t ht hW => ⟨⟨(), rfl, trivial, by rw [ht]; exact hP, va_K.moved hW.alike hK, hD⟩, hS.F ht⟩) hS.2.2 hd)
set_option maxHeartbeats 4000000 in
set_option maxRecDepth 100000 in
theorem bm_makeWays {p : Program} {l : Launch} {e : Env} {s : State} {m : MethodId} {args : Array Value} {below : List Frame} {meth : Method} {c : Code} {Q : State → Prop} {A : Nat → Prop} {dC : Nat → ClassId} {dI : Nat → Nat → Nat} {h0 : Nat} {kB kI kZ : ClassId} {q : Nat → Nat} {g : Nat → Int32} {F : Nat → Nat → Int32} {H : Heap} {locs : List Loc} {ls : Array Slot} (p0 : Int32) (c_g27 : Int32) (c_F24 : (Nat → Int32)) (c_F25 : (Nat → Int32)) (c_F26 : (Nat → Int32)) (c_F28 : (Nat → Int32)) (hr : f_makeWays g F p0 = some (c_g27, c_F24, c_F25, c_F26, c_F28)) (hx : p.tables.exec = Jvm.exec) (hb : c.code = cX12_makeWays) (hml : c.maxLocals = 4) (hown : s.vm.findClass RX12 = some m.cls) (hts : ∀ w ∈ vmX12_makeWays, w.before args s = true) (hA : ∀ q : Nat, s.heap.size ≤ q → A q) (hK : va_K (dC, dI) vwCl (mT kB kI kZ) s) (hP : va_P (dC, dI) vwCl (mW h0 kB kI kZ q g F) H) (hD : va_D A (mW h0 kB kI kZ q g F)) (hS : va_S A s.heap H locs) (hl : lv_has ls 4 [(0, .ref h0), (1, .int p0)])
    (K : ∀ (pc : Nat) (ls : Array Slot) (c_g27z : Int32) (c_F24z : (Nat → Int32)) (c_F25z : (Nat → Int32)) (c_F26z : (Nat → Int32)) (c_F28z : (Nat → Int32)) (H : Heap) (locs : List Loc), some (c_g27z, c_F24z, c_F25z, c_F26z, c_F28z) = some (c_g27, c_F24, c_F25, c_F26, c_F28) → decode cX12_makeWays pc = .ok (.return_, 1) → va_P (dC, dI) vwCl (mW h0 kB kI kZ q (upd g 27 c_g27z) (upF (upF (upF (upF F 24 c_F24z) 25 c_F25z) 26 c_F26z) 28 c_F28z)) H → va_D A (mW h0 kB kI kZ q (upd g 27 c_g27z) (upF (upF (upF (upF F 24 c_F24z) 25 c_F25z) 26 c_F26z) 28 c_F28z)) → va_S A s.heap H locs → W p l e ({ frames := 44, cells := 0, slots := 0, locals := 1070 } : Room) s m args below meth c H locs 0 0 Q (F0 m pc ls [])) : W p l e ({ frames := 44, cells := 0, slots := 0, locals := 1070 } : Room) s m args below meth c H locs 0 0 Q (F0 m 0 ls []) := by
  unfold f_makeWays at hr
  refine lv_aload_n hx hb dX12_makeWays_0 rfl (lv_at hl 0 rfl) ?_
  refine va_get (D := (dC, dI)) (ci := 12) (v := .ref (q 28)) (C := RX12) (T := TX12) (N := 71) hx hb hts inX12 hown hK hP 0 rfl rfl 28 (by decide) (hts (.fieldLink RX12 67 "SpellTurnerModel" "canEnd" "[Z") im_135) (fun _ h9 => h9) rfl dX12_makeWays_1 ?_
  refine lv_aload_n hx hb dX12_makeWays_4 rfl (lv_at hl 0 rfl) ?_
  refine va_get (D := (dC, dI)) (ci := 12) (v := .int (g 23)) (C := RX12) (T := TX12) (N := 71) hx hb hts inX12 hown hK hP 0 rfl rfl 23 (by decide) (hts (.fieldLink RX12 244 "SpellTurnerModel" "letters" "I") im_49) (fun _ h9 => h9) rfl dX12_makeWays_5 ?_
  refine lv_iconst (v := 1) hx hb dX12_makeWays_8 (by decide +kernel) ?_
  replace hr := iteS hr
  obtain ⟨hi9, hr⟩ := hr
  refine va_zast (f := (F 28)) hx hb hK hP hD hS 18 2 rfl rfl (inbV hi9) dX12_makeWays_9 (fun H locs hP hD hS => ?_)
  obtain ⟨w9, ew9, hP, hD⟩ : ∃ w9 : Nat → Int32, w9 = (upd (F 28) (Int32.toNatClampNeg (g 23)) (vp_nar .boolean 1)) ∧ va_P (dC, dI) vwCl (mW h0 kB kI kZ q g (upF F 28 w9)) H ∧ va_D A (mW h0 kB kI kZ q g (upF F 28 w9)) := ⟨(upd (F 28) (Int32.toNatClampNeg (g 23)) (vp_nar .boolean 1)), rfl, by first | exact sP_F28 hP rfl | exact sP_F28 hP upF_same | exact hP, by first | exact sD_F28 hD rfl | exact sD_F28 hD upF_same | exact hD⟩
  replace hr := vlS hr w9 ew9
  clear ew9
  refine lv_aload_n hx hb dX12_makeWays_10 rfl (lv_at hl 0 rfl) ?_
  refine va_get (D := (dC, dI)) (ci := 12) (v := .int (g 23)) (C := RX12) (T := TX12) (N := 71) hx hb hts inX12 hown hK hP 0 rfl rfl 23 (by decide) (hts (.fieldLink RX12 244 "SpellTurnerModel" "letters" "I") im_49) (fun _ h9 => h9) rfl dX12_makeWays_11 ?_
  refine lv_iconst (v := 1) hx hb dX12_makeWays_14 (by decide +kernel) ?_
  refine lv_isub hx hb dX12_makeWays_15 ?_
  refine lv_topi (fun x16 ex16 => ?_)
  replace hr := vlS hr x16 ex16
  clear ex16
  refine lv_istore_n (lv' := [(2, .int x16), (0, .ref h0), (1, .int p0)]) hx hb dX12_makeWays_16 rfl hl (by decide) rfl (fun ls hl => ?_)
  replace hr := jnS hr
  obtain ⟨k99, hk99, hr⟩ := hr
  have Jk99 : ∀ (c99_F28 : (Nat → Int32)) (H : Heap) (locs : List Loc) (ls : Array Slot), k99 c99_F28 = some (c_g27, c_F24, c_F25, c_F26, c_F28) → va_P (dC, dI) vwCl (mW h0 kB kI kZ q g (upF F 28 c99_F28)) H → va_D A (mW h0 kB kI kZ q g (upF F 28 c99_F28)) → va_S A s.heap H locs → lv_has ls 4 [(0, .ref h0), (1, .int p0)] → W p l e ({ frames := 44, cells := 0, slots := 0, locals := 1070 } : Room) s m args below meth c H locs 0 0 Q (F0 m 99 ls []) := by
    intro c99_F28 H locs ls hr hP hD hS hl
    rw [hk99] at hr
    refine lv_aload_n hx hb dX12_makeWays_99 rfl (lv_at hl 0 rfl) ?_
    refine lv_iconst (v := 0) hx hb dX12_makeWays_100 (by decide +kernel) ?_
    refine va_put (D := (dC, dI)) (ci := 12) (v := .int 0) (ty := .int) (C := RX12) (T := TX12) (N := 71) hx hb hts inX12 tyX12 tyX12_ok nmX12 hown hK hP hD hS 0 rfl rfl 27 (by decide) (hts (.fieldLink RX12 241 "SpellTurnerModel" "wayMany" "I") im_134) (fun _ h9 => h9) rfl (by decide +kernel) rfl rfl (Nat.le_of_ble_eq_true rfl) dX12_makeWays_101 (fun H locs hP hD hS => ?_)
    have hP : va_P (dC, dI) vwCl (mW h0 kB kI kZ q (upd g 27 0) (upF F 28 c99_F28)) H := by first | exact sP_g27 hP rfl | exact sP_g27 hP upd_same | exact hP
    have hD : va_D A (mW h0 kB kI kZ q (upd g 27 0) (upF F 28 c99_F28)) := by first | exact sD_g27 hD rfl | exact sD_g27 hD upd_same | exact hD
    refine lv_aload_n hx hb dX12_makeWays_104 rfl (lv_at hl 0 rfl) ?_
    refine va_get (D := (dC, dI)) (ci := 12) (v := .ref (q 28)) (C := RX12) (T := TX12) (N := 71) hx hb hts inX12 hown hK hP 0 rfl rfl 28 (by decide) (hts (.fieldLink RX12 67 "SpellTurnerModel" "canEnd" "[Z") im_135) (fun _ h9 => h9) rfl dX12_makeWays_105 ?_
    refine lv_iconst (v := 0) hx hb dX12_makeWays_108 (by decide +kernel) ?_
    replace hr := iteS hr
    obtain ⟨hi109, hr⟩ := hr
    refine va_zald (f := c99_F28) hx hb hK hP 18 2 rfl rfl (inbV hi109) dX12_makeWays_109 ?_
    replace hr := jnS hr
    obtain ⟨j120, hj120, hr⟩ := hr
    have Jj120 : ∀ (c120_g27 : Int32) (c120_F24 : (Nat → Int32)) (c120_F25 : (Nat → Int32)) (c120_F26 : (Nat → Int32)) (H : Heap) (locs : List Loc) (ls : Array Slot), j120 c120_g27 c120_F24 c120_F25 c120_F26 = some (c_g27, c_F24, c_F25, c_F26, c_F28) → va_P (dC, dI) vwCl (mW h0 kB kI kZ q (upd g 27 c120_g27) (upF (upF (upF (upF F 24 c120_F24) 25 c120_F25) 26 c120_F26) 28 c99_F28)) H → va_D A (mW h0 kB kI kZ q (upd g 27 c120_g27) (upF (upF (upF (upF F 24 c120_F24) 25 c120_F25) 26 c120_F26) 28 c99_F28)) → va_S A s.heap H locs → lv_has ls 4 [] → W p l e ({ frames := 44, cells := 0, slots := 0, locals := 1070 } : Room) s m args below meth c H locs 0 0 Q (F0 m 120 ls []) := by
      intro c120_g27 c120_F24 c120_F25 c120_F26 H locs ls hr hP hD hS hl
      rw [hj120] at hr
      first | exact K 120 ls _ _ _ _ _ H _ hr dX12_makeWays_120 (sP_eq (mW_cg (by repeat (first | with_reducible rfl | with_reducible refine upd_cg ?_ | refine Eq.trans ?_ (upd_id rfl))) (by repeat (first | with_reducible rfl | with_reducible refine upF_cg ?_ | refine Eq.trans ?_ (upF_id rfl)))) hP) (sD_eq (mW_cg (by repeat (first | with_reducible rfl | with_reducible refine upd_cg ?_ | refine Eq.trans ?_ (upd_id rfl))) (by repeat (first | with_reducible rfl | with_reducible refine upF_cg ?_ | refine Eq.trans ?_ (upF_id rfl)))) hD) hS | exact K 120 ls _ _ _ _ _ H _ hr dX12_makeWays_120 hP hD hS
    refine lv_if_eq (tgt := 120) hx hb dX12_makeWays_110 (by decide) (fun c110 => ?_) (fun c110 => ?_)
    · replace hr := iteT c110 hr
      first | exact Jj120 0 (F 24) (F 25) (F 26) H _ ls hr (sP_eq (mW_cg (by repeat (first | with_reducible rfl | with_reducible refine upd_cg ?_ | refine Eq.trans ?_ (upd_id rfl))) (by repeat (first | with_reducible rfl | with_reducible refine upF_cg ?_ | refine Eq.trans ?_ (upF_id rfl)))) hP) (sD_eq (mW_cg (by repeat (first | with_reducible rfl | with_reducible refine upd_cg ?_ | refine Eq.trans ?_ (upd_id rfl))) (by repeat (first | with_reducible rfl | with_reducible refine upF_cg ?_ | refine Eq.trans ?_ (upF_id rfl)))) hD) hS (lv_sub hl [] rfl) | exact Jj120 0 (F 24) (F 25) (F 26) H _ ls hr hP hD hS (lv_sub hl [] rfl)
    · replace hr := iteF c110 hr
      refine lv_aload_n hx hb dX12_makeWays_113 rfl (lv_at hl 0 rfl) ?_
      refine lv_iload_n hx hb dX12_makeWays_114 rfl (lv_at hl 1 rfl) ?_
      refine lv_iconst (v := 0) hx hb dX12_makeWays_115 (by decide +kernel) ?_
      refine lv_iconst (v := 0) hx hb dX12_makeWays_116 (by decide +kernel) ?_
      replace hr := b4S hr
      obtain ⟨c117_g27, c117_F24, c117_F25, c117_F26, hc117, hr⟩ := hr
      have hFc := fr_all hD hS hA
      refine va_callv (va_runV (As := [.int p0, .int 0, .int 0]) (rest := []) ⟨hx, hb, hml, hown, hts⟩ (m_part l dC dI 40 H.size h0 kB kI kZ q (upd g 27 0) (upF F 28 c99_F28) p0 0 0 c117_g27 c117_F24 c117_F25 c117_F26 hc117) (cwV 3 hts gw_X12_part_250 rfl rfl rfl (by decide +kernel) ⟨Nat.le_of_ble_eq_true rfl, Nat.le_of_ble_eq_true rfl⟩) ⟨fun a U g mk q => by obtain ⟨q0, q1, qP, qK, qD⟩ := q; exact ⟨q0, q1, qP, va_K.moved (u := U) (U := U.calling g mk a) (Vm.Alike.refl U.vm) qK, qD⟩, va_recv hK hP (ci := 12) (q0 := 0) rfl rfl, fun U hU hW => ⟨rfl, by rw [hU], by rw [hU]; exact hP, va_K.moved hW.alike hK, hD.weaken (fun _ _ _ _ => trivial)⟩⟩ rfl rfl hl.1 rfl (lv_room (Nat.le_of_ble_eq_true rfl)) dX12_makeWays_117 ⟨Nat.le_of_ble_eq_true rfl, Nat.le_of_ble_eq_true rfl⟩) hS (fun q _ h => hFc q h) hFc (fun u t H1 locs ht hvm hw hB hz1 hk1 hS => ?_)
      obtain ⟨hP1, hK1, hD1⟩ := hB
      rw [ht] at hP1
      obtain ⟨hP, hD⟩ := jn_all (w1 := (mW h0 kB kI kZ q (upd g 27 c117_g27) (upF (upF (upF (upF F 24 c117_F24) 25 c117_F25) 26 c117_F26) 28 c99_F28))) hFc hP1 hD1
      clear hFc hP1 hK1 hD1 hk1 hz1 ht hvm
      generalize H1 = H at hP hS ⊢
      have hP : va_P (dC, dI) vwCl (mW h0 kB kI kZ q (upd g 27 c117_g27) (upF (upF (upF (upF F 24 c117_F24) 25 c117_F25) 26 c117_F26) 28 c99_F28)) H := hP
      have hD : va_D A (mW h0 kB kI kZ q (upd g 27 c117_g27) (upF (upF (upF (upF F 24 c117_F24) 25 c117_F25) 26 c117_F26) 28 c99_F28)) := hD
      exact Jj120 c117_g27 c117_F24 c117_F25 c117_F26 H _ ls hr hP hD hS (lv_sub hl [] rfl)
  have lp17 : ∀ (n17 : Nat) (y17_2 : Int32) (d17_F28 : (Nat → Int32)) (H : Heap) (locs : List Loc) (ls : Array Slot), L_makeWays_17 g F p0 k99 n17 y17_2 d17_F28 = some (c_g27, c_F24, c_F25, c_F26, c_F28) → va_P (dC, dI) vwCl (mW h0 kB kI kZ q g (upF F 28 d17_F28)) H → va_D A (mW h0 kB kI kZ q g (upF F 28 d17_F28)) → va_S A s.heap H locs → lv_has ls 4 [(0, .ref h0), (1, .int p0), (2, .int y17_2)] → W p l e ({ frames := 44, cells := 0, slots := 0, locals := 1070 } : Room) s m args below meth c H locs 0 0 Q (F0 m 17 ls []) := by
    intro n17
    induction n17 with
    | zero => intro y17_2 d17_F28 H locs ls hr; exact nomatch (show none = some (c_g27, c_F24, c_F25, c_F26, c_F28) from hr)
    | succ n17 ih17 =>
      intro y17_2 d17_F28 H locs ls hr hP hD hS hl
      replace hr : B_makeWays_17 g F p0 k99 (L_makeWays_17 g F p0 k99 n17) y17_2 d17_F28 = some (c_g27, c_F24, c_F25, c_F26, c_F28) := hr
      unfold B_makeWays_17 at hr
      refine lv_iload_n hx hb dX12_makeWays_17 rfl (lv_at hl 2 rfl) ?_
      refine lv_if_lt (tgt := 99) hx hb dX12_makeWays_18 (by decide) (fun c18 => ?_) (fun c18 => ?_)
      · replace hr := iteT c18 hr
        exact Jk99 d17_F28 H _ ls hr hP hD hS (lv_sub hl [0, 1] rfl)
      · replace hr := iteF c18 hr
        refine lv_aload_n hx hb dX12_makeWays_21 rfl (lv_at hl 0 rfl) ?_
        refine va_get (D := (dC, dI)) (ci := 12) (v := .ref (q 28)) (C := RX12) (T := TX12) (N := 71) hx hb hts inX12 hown hK hP 0 rfl rfl 28 (by decide) (hts (.fieldLink RX12 67 "SpellTurnerModel" "canEnd" "[Z") im_135) (fun _ h9 => h9) rfl dX12_makeWays_22 ?_
        refine lv_iload_n hx hb dX12_makeWays_25 rfl (lv_at hl 2 rfl) ?_
        refine lv_iconst (v := 0) hx hb dX12_makeWays_26 (by decide +kernel) ?_
        replace hr := iteS hr
        obtain ⟨hi27, hr⟩ := hr
        refine va_zast (f := d17_F28) hx hb hK hP hD hS 18 2 rfl rfl (inbV hi27) dX12_makeWays_27 (fun H locs hP hD hS => ?_)
        obtain ⟨w27, ew27, hP, hD⟩ : ∃ w27 : Nat → Int32, w27 = (upd d17_F28 (Int32.toNatClampNeg y17_2) (vp_nar .boolean 0)) ∧ va_P (dC, dI) vwCl (mW h0 kB kI kZ q g (upF F 28 w27)) H ∧ va_D A (mW h0 kB kI kZ q g (upF F 28 w27)) := ⟨(upd d17_F28 (Int32.toNatClampNeg y17_2) (vp_nar .boolean 0)), rfl, by first | exact sP_F28 hP upF_same | exact sP_F28 hP rfl | exact hP, by first | exact sD_F28 hD upF_same | exact sD_F28 hD rfl | exact hD⟩
        replace hr := vlS hr w27 ew27
        clear ew27
        refine lv_iconst (v := 1) hx hb dX12_makeWays_28 (by decide +kernel) ?_
        refine lv_istore_n (lv' := [(3, .int 1), (0, .ref h0), (1, .int p0), (2, .int y17_2)]) hx hb dX12_makeWays_29 rfl hl (by decide) rfl (fun ls hl => ?_)
        replace hr := jnS hr
        obtain ⟨k93, hk93, hr⟩ := hr
        have Jk93 : ∀ (c93_F28 : (Nat → Int32)) (H : Heap) (locs : List Loc) (ls : Array Slot), k93 c93_F28 = some (c_g27, c_F24, c_F25, c_F26, c_F28) → va_P (dC, dI) vwCl (mW h0 kB kI kZ q g (upF F 28 c93_F28)) H → va_D A (mW h0 kB kI kZ q g (upF F 28 c93_F28)) → va_S A s.heap H locs → lv_has ls 4 [(0, .ref h0), (1, .int p0), (2, .int y17_2)] → W p l e ({ frames := 44, cells := 0, slots := 0, locals := 1070 } : Room) s m args below meth c H locs 0 0 Q (F0 m 93 ls []) := by
          intro c93_F28 H locs ls hr hP hD hS hl
          rw [hk93] at hr
          refine lv_iinc (v := (y17_2 + (-1))) (lv' := [(2, .int (y17_2 + (-1))), (0, .ref h0), (1, .int p0)]) hx hb dX12_makeWays_93 hl (k := 2) rfl rfl (by decide) rfl (fun ls hl => ?_)
          refine lv_goto (tgt := 17) hx hb dX12_makeWays_96 (by decide) ?_
          exact ih17 (y17_2 + (-1)) c93_F28 H _ ls hr hP hD hS (lv_sub hl [1, 2, 0] rfl)
        have lp30 : ∀ (n30 : Nat) (y30_3 : Int32) (d30_F28 : (Nat → Int32)) (H : Heap) (locs : List Loc) (ls : Array Slot), L_makeWays_30 g F p0 y17_2 k93 n30 y30_3 d30_F28 = some (c_g27, c_F24, c_F25, c_F26, c_F28) → va_P (dC, dI) vwCl (mW h0 kB kI kZ q g (upF F 28 d30_F28)) H → va_D A (mW h0 kB kI kZ q g (upF F 28 d30_F28)) → va_S A s.heap H locs → lv_has ls 4 [(0, .ref h0), (1, .int p0), (2, .int y17_2), (3, .int y30_3)] → W p l e ({ frames := 44, cells := 0, slots := 0, locals := 1070 } : Room) s m args below meth c H locs 0 0 Q (F0 m 30 ls []) := by
          intro n30
          induction n30 with
          | zero => intro y30_3 d30_F28 H locs ls hr; exact nomatch (show none = some (c_g27, c_F24, c_F25, c_F26, c_F28) from hr)
          | succ n30 ih30 =>
            intro y30_3 d30_F28 H locs ls hr hP hD hS hl
            replace hr : B_makeWays_30 g F p0 y17_2 k93 (L_makeWays_30 g F p0 y17_2 k93 n30) y30_3 d30_F28 = some (c_g27, c_F24, c_F25, c_F26, c_F28) := hr
            unfold B_makeWays_30 at hr
            refine lv_iload_n hx hb dX12_makeWays_30 rfl (lv_at hl 3 rfl) ?_
            refine lv_bipush (v := 16) hx hb dX12_makeWays_31 (by decide +kernel) ?_
            refine lv_icmp_gt (tgt := 93) hx hb dX12_makeWays_33 (by decide) (fun c33 => ?_) (fun c33 => ?_)
            · replace hr := iteT c33 hr
              exact Jk93 d30_F28 H _ ls hr hP hD hS (lv_sub hl [0, 1, 2] rfl)
            · replace hr := iteF c33 hr
              refine lv_iload_n hx hb dX12_makeWays_36 rfl (lv_at hl 2 rfl) ?_
              refine lv_iload_n hx hb dX12_makeWays_37 rfl (lv_at hl 3 rfl) ?_
              refine lv_iadd hx hb dX12_makeWays_38 ?_
              refine lv_aload_n hx hb dX12_makeWays_39 rfl (lv_at hl 0 rfl) ?_
              refine va_get (D := (dC, dI)) (ci := 12) (v := .int (g 23)) (C := RX12) (T := TX12) (N := 71) hx hb hts inX12 hown hK hP 0 rfl rfl 23 (by decide) (hts (.fieldLink RX12 244 "SpellTurnerModel" "letters" "I") im_49) (fun _ h9 => h9) rfl dX12_makeWays_40 ?_
              refine lv_icmp_gt (tgt := 93) hx hb dX12_makeWays_43 (by decide) (fun c43 => ?_) (fun c43 => ?_)
              · replace hr := iteT c43 hr
                exact Jk93 d30_F28 H _ ls hr hP hD hS (lv_sub hl [0, 1, 2] rfl)
              · replace hr := iteF c43 hr
                refine lv_aload_n hx hb dX12_makeWays_46 rfl (lv_at hl 0 rfl) ?_
                refine va_get (D := (dC, dI)) (ci := 12) (v := .ref (q 28)) (C := RX12) (T := TX12) (N := 71) hx hb hts inX12 hown hK hP 0 rfl rfl 28 (by decide) (hts (.fieldLink RX12 67 "SpellTurnerModel" "canEnd" "[Z") im_135) (fun _ h9 => h9) rfl dX12_makeWays_47 ?_
                refine lv_iload_n hx hb dX12_makeWays_50 rfl (lv_at hl 2 rfl) ?_
                replace hr := iteS hr
                obtain ⟨hi51, hr⟩ := hr
                refine va_zald (f := d30_F28) hx hb hK hP 18 2 rfl rfl (inbV hi51) dX12_makeWays_51 ?_
                refine lv_if_ne (tgt := 93) hx hb dX12_makeWays_52 (by decide) (fun c52 => ?_) (fun c52 => ?_)
                · replace hr := iteF c52 hr
                  exact Jk93 d30_F28 H _ ls hr hP hD hS (lv_sub hl [0, 1, 2] rfl)
                · replace hr := iteT c52 hr
                  refine lv_aload_n hx hb dX12_makeWays_55 rfl (lv_at hl 0 rfl) ?_
                  refine va_get (D := (dC, dI)) (ci := 12) (v := .ref (q 28)) (C := RX12) (T := TX12) (N := 71) hx hb hts inX12 hown hK hP 0 rfl rfl 28 (by decide) (hts (.fieldLink RX12 67 "SpellTurnerModel" "canEnd" "[Z") im_135) (fun _ h9 => h9) rfl dX12_makeWays_56 ?_
                  refine lv_iload_n hx hb dX12_makeWays_59 rfl (lv_at hl 2 rfl) ?_
                  refine lv_aload_n hx hb dX12_makeWays_60 rfl (lv_at hl 0 rfl) ?_
                  refine va_get (D := (dC, dI)) (ci := 12) (v := .ref (q 28)) (C := RX12) (T := TX12) (N := 71) hx hb hts inX12 hown hK hP 0 rfl rfl 28 (by decide) (hts (.fieldLink RX12 67 "SpellTurnerModel" "canEnd" "[Z") im_135) (fun _ h9 => h9) rfl dX12_makeWays_61 ?_
                  refine lv_iload_n hx hb dX12_makeWays_64 rfl (lv_at hl 2 rfl) ?_
                  refine lv_iload_n hx hb dX12_makeWays_65 rfl (lv_at hl 3 rfl) ?_
                  refine lv_iadd hx hb dX12_makeWays_66 ?_
                  replace hr := iteS hr
                  obtain ⟨hi67, hr⟩ := hr
                  refine va_zald (f := d30_F28) hx hb hK hP 18 2 rfl rfl (inbV hi67) dX12_makeWays_67 ?_
                  replace hr := jnS hr
                  obtain ⟨j86, hj86, hr⟩ := hr
                  have Jj86 : ∀ (t86_0 : Int32) (H : Heap) (locs : List Loc) (ls : Array Slot), j86 t86_0 = some (c_g27, c_F24, c_F25, c_F26, c_F28) → va_P (dC, dI) vwCl (mW h0 kB kI kZ q g (upF F 28 d30_F28)) H → va_D A (mW h0 kB kI kZ q g (upF F 28 d30_F28)) → va_S A s.heap H locs → lv_has ls 4 [(0, .ref h0), (1, .int p0), (2, .int y17_2), (3, .int y30_3)] → W p l e ({ frames := 44, cells := 0, slots := 0, locals := 1070 } : Room) s m args below meth c H locs 0 0 Q (F0 m 86 ls [.int t86_0, .int y17_2, .ref (q 28)]) := by
                    intro t86_0 H locs ls hr hP hD hS hl
                    rw [hj86] at hr
                    replace hr := iteS hr
                    obtain ⟨hi86, hr⟩ := hr
                    refine va_zast (f := d30_F28) hx hb hK hP hD hS 18 2 rfl rfl (inbV hi86) dX12_makeWays_86 (fun H locs hP hD hS => ?_)
                    obtain ⟨w86, ew86, hP, hD⟩ : ∃ w86 : Nat → Int32, w86 = (upd d30_F28 (Int32.toNatClampNeg y17_2) (vp_nar .boolean t86_0)) ∧ va_P (dC, dI) vwCl (mW h0 kB kI kZ q g (upF F 28 w86)) H ∧ va_D A (mW h0 kB kI kZ q g (upF F 28 w86)) := ⟨(upd d30_F28 (Int32.toNatClampNeg y17_2) (vp_nar .boolean t86_0)), rfl, by first | exact sP_F28 hP upF_same | exact sP_F28 hP rfl | exact hP, by first | exact sD_F28 hD upF_same | exact sD_F28 hD rfl | exact hD⟩
                    replace hr := vlS hr w86 ew86
                    clear ew86
                    refine lv_iinc (v := (y30_3 + 1)) (lv' := [(3, .int (y30_3 + 1)), (0, .ref h0), (1, .int p0), (2, .int y17_2)]) hx hb dX12_makeWays_87 hl (k := 3) rfl rfl (by decide) rfl (fun ls hl => ?_)
                    refine lv_goto (tgt := 30) hx hb dX12_makeWays_90 (by decide) ?_
                    exact ih30 (y30_3 + 1) w86 H _ ls hr hP hD hS (lv_sub hl [1, 2, 3, 0] rfl)
                  replace hr := jnS hr
                  obtain ⟨j85, hj85, hr⟩ := hr
                  have Jj85 : ∀ (H : Heap) (locs : List Loc) (ls : Array Slot), j85 () = some (c_g27, c_F24, c_F25, c_F26, c_F28) → va_P (dC, dI) vwCl (mW h0 kB kI kZ q g (upF F 28 d30_F28)) H → va_D A (mW h0 kB kI kZ q g (upF F 28 d30_F28)) → va_S A s.heap H locs → lv_has ls 4 [(0, .ref h0), (1, .int p0), (2, .int y17_2), (3, .int y30_3)] → W p l e ({ frames := 44, cells := 0, slots := 0, locals := 1070 } : Room) s m args below meth c H locs 0 0 Q (F0 m 85 ls [.int y17_2, .ref (q 28)]) := by
                    intro H locs ls hr hP hD hS hl
                    rw [hj85] at hr
                    refine lv_iconst (v := 0) hx hb dX12_makeWays_85 (by decide +kernel) ?_
                    exact Jj86 0 H _ ls hr hP hD hS (lv_sub hl [0, 1, 2, 3] rfl)
                  refine lv_if_eq (tgt := 85) hx hb dX12_makeWays_68 (by decide) (fun c68 => ?_) (fun c68 => ?_)
                  · replace hr := iteT c68 hr
                    exact Jj85 H _ ls hr hP hD hS (lv_sub hl [0, 1, 2, 3] rfl)
                  · replace hr := iteF c68 hr
                    refine lv_aload_n hx hb dX12_makeWays_71 rfl (lv_at hl 0 rfl) ?_
                    refine lv_iload_n hx hb dX12_makeWays_72 rfl (lv_at hl 1 rfl) ?_
                    refine lv_iload_n hx hb dX12_makeWays_73 rfl (lv_at hl 2 rfl) ?_
                    refine lv_iload_n hx hb dX12_makeWays_74 rfl (lv_at hl 3 rfl) ?_
                    replace hr := b1S hr
                    obtain ⟨r75z, hc75, hr⟩ := hr
                    have hFc := fr_all hD hS hA
                    refine va_calli (va_runV (As := [.int p0, .int y17_2, .int y30_3]) (rest := [.int y17_2, .ref (q 28)]) ⟨hx, hb, hml, hown, hts⟩ (m_isWordPart l dC dI H.size h0 kB kI kZ q g (upF F 28 d30_F28) p0 y17_2 y30_3 r75z hc75) (cwV 3 hts gw_X12_isWordPart_247 rfl rfl rfl (by decide +kernel) ⟨Nat.le_of_ble_eq_true rfl, Nat.le_of_ble_eq_true rfl⟩) ⟨fun a U g mk q => by obtain ⟨q0, q1, qP, qK, qD⟩ := q; exact ⟨q0, q1, qP, va_K.moved (u := U) (U := U.calling g mk a) (Vm.Alike.refl U.vm) qK, qD⟩, va_recv hK hP (ci := 12) (q0 := 0) rfl rfl, fun U hU hW => ⟨rfl, by rw [hU], by rw [hU]; exact hP, va_K.moved hW.alike hK, hD.weaken (fun _ _ _ _ => trivial)⟩⟩ rfl rfl hl.1 rfl (lv_room (Nat.le_of_ble_eq_true rfl)) dX12_makeWays_75 ⟨Nat.le_of_ble_eq_true rfl, Nat.le_of_ble_eq_true rfl⟩) hS (fun q _ h => hFc q h) hFc (fun r75 u t H1 locs ht hvm hw hB hz1 hk1 hS => ?_)
                    replace hw : r75 = r75z := hw
                    subst hw
                    obtain ⟨hP1, hK1, hD1⟩ := hB
                    rw [ht] at hP1
                    obtain ⟨hP, hD⟩ := jn_all (w1 := (mW h0 kB kI kZ q g (upF F 28 d30_F28))) hFc hP1 hD1
                    clear hFc hP1 hK1 hD1 hk1 hz1 ht hvm
                    generalize H1 = H at hP hS ⊢
                    have hP : va_P (dC, dI) vwCl (mW h0 kB kI kZ q g (upF F 28 d30_F28)) H := hP
                    have hD : va_D A (mW h0 kB kI kZ q g (upF F 28 d30_F28)) := hD
                    refine lv_if_eq (tgt := 85) hx hb dX12_makeWays_78 (by decide) (fun c78 => ?_) (fun c78 => ?_)
                    · replace hr := iteT c78 hr
                      exact Jj85 H _ ls hr hP hD hS (lv_sub hl [0, 1, 2, 3] rfl)
                    · replace hr := iteF c78 hr
                      refine lv_iconst (v := 1) hx hb dX12_makeWays_81 (by decide +kernel) ?_
                      refine lv_goto (tgt := 86) hx hb dX12_makeWays_82 (by decide) ?_
                      exact Jj86 1 H _ ls hr hP hD hS (lv_sub hl [0, 1, 2, 3] rfl)
        exact lp30 NN 1 w27 H _ ls hr hP hD hS (lv_sub hl [1, 2, 3, 0] rfl)
  exact lp17 NN x16 w9 H _ ls hr hP hD hS (lv_sub hl [1, 2, 0] rfl)
set_option maxHeartbeats 4000000 in
set_option maxRecDepth 100000 in
theorem m_makeWays (l : Launch) (dC : Nat → ClassId) (dI : Nat → Nat → Nat) (sz : Nat) (h0 : Nat) (kB kI kZ : ClassId) (q : Nat → Nat) (g : Nat → Int32) (F : Nat → Nat → Int32) (p0 : Int32) (c_g27 : Int32) (c_F24 : (Nat → Int32)) (c_F25 : (Nat → Int32)) (c_F26 : (Nat → Int32)) (c_F28 : (Nat → Int32)) (hr : f_makeWays g F p0 = some (c_g27, c_F24, c_F25, c_F26, c_F28)) : Met l yX12_makeWays vmX12_makeWays ({ frames := 44, cells := 0, slots := 0, locals := 1070 } : Room) (va_Pc [.ref h0, .int p0] (fun U => U.heap.size = sz ∧ va_P (dC, dI) vwCl (mW h0 kB kI kZ q g F) U.heap ∧ va_K (dC, dI) vwCl (mT kB kI kZ) U ∧ va_D (fun _ => True) (mW h0 kB kI kZ q g F))) (va_Qv (fun _ : Unit => True) (fun _ t => va_P (dC, dI) vwCl (mW h0 kB kI kZ q (upd g 27 c_g27) (upF (upF (upF (upF F 24 c_F24) 25 c_F25) 26 c_F26) 28 c_F28)) t.heap ∧ va_K (dC, dI) vwCl (mT kB kI kZ) t ∧ va_D (va_A (mW h0 kB kI kZ q g F) sz) (mW h0 kB kI kZ q (upd g 27 c_g27) (upF (upF (upF (upF F 24 c_F24) 25 c_F25) 26 c_F26) 28 c_F28))) (va_A (mW h0 kB kI kZ q g F) sz)) 0 0 (va_A (mW h0 kB kI kZ q g F) sz) := by
  refine Met.ofW (cc := cX12_makeWays) (maxL := 4) (ret := none) (by decide) rfl ?_
  intro p e s m args below meth c s₁ B hml hv
  obtain ⟨rfl, hsz, hP, hK, hD0⟩ := hv
  have hx := B.exec
  have hb := B.bytes
  have hrt := B.returns
  have hts := atoms_spec (ws := vmX12_makeWays) B.pre
  have hown : s.vm.findClass RX12 = some m.cls := findClass_of_methodNamed B.named
  subst hsz
  have hD := hD0.self (sz := s.heap.size)
  generalize hAe : va_A (mW h0 kB kI kZ q g F) s.heap.size = A at hD ⊢
  have hA : ∀ q : Nat, s.heap.size ≤ q → A q := fun q h => by rw [← hAe]; exact Or.inr h
  have hS : va_S A s.heap s.heap [] := va_S.rf
  have hl := lv_entry ([.ref h0, .int p0]) (n := 4) (Nat.le_of_ble_eq_true rfl)
  rw [lg_entry_eq]
  generalize (lg_sl ([.ref h0, .int p0]) ++ List.replicate (4 - (lg_sl ([.ref h0, .int p0])).length) Slot.unset).toArray = ls at hl ⊢
  exact bm_makeWays p0 c_g27 c_F24 c_F25 c_F26 c_F28 hr hx hb hml hown hts hA hK hP hD hS hl (fun pc ls c_g27z c_F24z c_F25z c_F26z c_F28z H locs he hd hP hD hS => by cases he; exact W.vret hx hb hrt (fun t ht hW => ⟨⟨(), rfl, trivial, by rw [ht]; exact hP, va_K.moved hW.alike hK, hD⟩, hS.F ht⟩) hS.2.2 hd)
set_option maxHeartbeats 4000000 in
set_option maxRecDepth 100000 in
theorem bm_stands_31 {p : Program} {l : Launch} {e : Env} {s : State} {m : MethodId} {args : Array Value} {below : List Frame} {meth : Method} {c : Code} {Q : State → Prop} {A : Nat → Prop} {dC : Nat → ClassId} {dI : Nat → Nat → Nat} {h0 : Nat} {kB kI kZ : ClassId} {q : Nat → Nat} {g : Nat → Int32} {F : Nat → Nat → Int32} {H : Heap} {locs : List Loc} {ls : Array Slot} (p0 : Int32) (p2 : Int32) (p3 : Int32) (r : Int32) (hr : f_stands g F p0 (F 31) 400 p2 p3 = some r) (hx : p.tables.exec = Jvm.exec) (hb : c.code = cX12_stands) (hml : c.maxLocals = 6) (hown : s.vm.findClass RX12 = some m.cls) (hts : ∀ w ∈ vmX12_stands, w.before args s = true) (hA : ∀ q : Nat, s.heap.size ≤ q → A q) (hK : va_K (dC, dI) vwCl (mT kB kI kZ) s) (hP : va_P (dC, dI) vwCl (mW h0 kB kI kZ q g F) H) (hD : va_D A (mW h0 kB kI kZ q g F)) (hS : va_S A s.heap H locs) (hl : lv_has ls 6 [(0, .ref h0), (1, .int p0), (2, .ref (q 31)), (3, .int p2), (4, .int p3)])
    (K : ∀ (pc : Nat) (ls : Array Slot) (rz : Int32) (H : Heap) (locs : List Loc), some rz = some r → is01 rz → decode cX12_stands pc = .ok (.ireturn, 1) → va_P (dC, dI) vwCl (mW h0 kB kI kZ q g F) H → va_D A (mW h0 kB kI kZ q g F) → va_S A s.heap H locs → W p l e ({ frames := 2, cells := 0, slots := 0, locals := 60 } : Room) s m args below meth c H locs 0 0 Q (F0 m pc ls [.int rz])) : W p l e ({ frames := 2, cells := 0, slots := 0, locals := 60 } : Room) s m args below meth c H locs 0 0 Q (F0 m 0 ls []) := by
  unfold f_stands at hr
  refine lv_iload_n hx hb dX12_stands_0 rfl (lv_at hl 3 rfl) ?_
  replace hr := jnS hr
  obtain ⟨j17, hj17, hr⟩ := hr
  have Jj17 : ∀ (H : Heap) (locs : List Loc) (ls : Array Slot), j17 () = some r → va_P (dC, dI) vwCl (mW h0 kB kI kZ q g F) H → va_D A (mW h0 kB kI kZ q g F) → va_S A s.heap H locs → lv_has ls 6 [] → W p l e ({ frames := 2, cells := 0, slots := 0, locals := 60 } : Room) s m args below meth c H locs 0 0 Q (F0 m 17 ls []) := by
    intro H locs ls hr hP hD hS hl
    rw [hj17] at hr
    refine lv_iconst (v := 0) hx hb dX12_stands_17 (by decide +kernel) ?_
    exact K 18 ls _ H _ hr (by decide) dX12_stands_18 hP hD hS
  refine lv_if_lt (tgt := 17) hx hb dX12_stands_1 (by decide) (fun c1 => ?_) (fun c1 => ?_)
  · replace hr := iteT c1 hr
    exact Jj17 H _ ls hr hP hD hS (lv_sub hl [] rfl)
  · replace hr := iteF c1 hr
    refine lv_iload_n hx hb dX12_stands_4 rfl (lv_at hl 3 rfl) ?_
    refine lv_aload_n hx hb dX12_stands_5 rfl (lv_at hl 0 rfl) ?_
    refine va_get (D := (dC, dI)) (ci := 12) (v := .ref (q 15)) (C := RX12) (T := TX12) (N := 71) hx hb hts inX12 hown hK hP 0 rfl rfl 15 (by decide) (hts (.fieldLink RX12 33 "SpellTurnerModel" "lawSize" "[I") im_71) (fun _ h9 => h9) rfl dX12_stands_6 ?_
    refine lv_iload_n hx hb dX12_stands_9 rfl (lv_at hl 1 rfl) ?_
    replace hr := iteS hr
    obtain ⟨hi10, hr⟩ := hr
    refine va_iald (f := (F 15)) hx hb hK hP 7 1 rfl rfl (inbV hi10) dX12_stands_10 ?_
    refine lv_iadd hx hb dX12_stands_11 ?_
    refine lv_iload hx hb dX12_stands_12 (lv_at hl 4 rfl) ?_
    refine lv_icmp_le (tgt := 19) hx hb dX12_stands_14 (by decide) (fun c14 => ?_) (fun c14 => ?_)
    · replace hr := iteT c14 hr
      refine lv_iconst (v := 0) hx hb dX12_stands_19 (by decide +kernel) ?_
      refine lv_istore (lv' := [(5, .int 0), (0, .ref h0), (1, .int p0), (2, .ref (q 31)), (3, .int p2), (4, .int p3)]) hx hb dX12_stands_20 hl (by decide) rfl (fun ls hl => ?_)
      have lp22 : ∀ (n22 : Nat) (y22_5 : Int32) (H : Heap) (locs : List Loc) (ls : Array Slot), L_stands_22 F p0 (F 31) 400 p2 n22 y22_5 = some r → va_P (dC, dI) vwCl (mW h0 kB kI kZ q g F) H → va_D A (mW h0 kB kI kZ q g F) → va_S A s.heap H locs → lv_has ls 6 [(0, .ref h0), (1, .int p0), (2, .ref (q 31)), (3, .int p2), (5, .int y22_5)] → W p l e ({ frames := 2, cells := 0, slots := 0, locals := 60 } : Room) s m args below meth c H locs 0 0 Q (F0 m 22 ls []) := by
        intro n22
        induction n22 with
        | zero => intro y22_5 H locs ls hr; exact nomatch (show none = some r from hr)
        | succ n22 ih22 =>
          intro y22_5 H locs ls hr hP hD hS hl
          replace hr : B_stands_22 F p0 (F 31) 400 p2 (L_stands_22 F p0 (F 31) 400 p2 n22) y22_5 = some r := hr
          unfold B_stands_22 at hr
          refine lv_iload hx hb dX12_stands_22 (lv_at hl 4 rfl) ?_
          refine lv_aload_n hx hb dX12_stands_24 rfl (lv_at hl 0 rfl) ?_
          refine va_get (D := (dC, dI)) (ci := 12) (v := .ref (q 15)) (C := RX12) (T := TX12) (N := 71) hx hb hts inX12 hown hK hP 0 rfl rfl 15 (by decide) (hts (.fieldLink RX12 33 "SpellTurnerModel" "lawSize" "[I") im_71) (fun _ h9 => h9) rfl dX12_stands_25 ?_
          refine lv_iload_n hx hb dX12_stands_28 rfl (lv_at hl 1 rfl) ?_
          replace hr := iteS hr
          obtain ⟨hi29, hr⟩ := hr
          refine va_iald (f := (F 15)) hx hb hK hP 7 1 rfl rfl (inbV hi29) dX12_stands_29 ?_
          refine lv_icmp_ge (tgt := 62) hx hb dX12_stands_30 (by decide) (fun c30 => ?_) (fun c30 => ?_)
          · replace hr := iteT c30 hr
            refine lv_iconst (v := 1) hx hb dX12_stands_62 (by decide +kernel) ?_
            exact K 63 ls _ H _ hr (by decide) dX12_stands_63 hP hD hS
          · replace hr := iteF c30 hr
            refine lv_aload_n hx hb dX12_stands_33 rfl (lv_at hl 2 rfl) ?_
            refine lv_iload_n hx hb dX12_stands_34 rfl (lv_at hl 3 rfl) ?_
            refine lv_iload hx hb dX12_stands_35 (lv_at hl 4 rfl) ?_
            refine lv_iadd hx hb dX12_stands_37 ?_
            replace hr := iteS hr
            obtain ⟨hi38, hr⟩ := hr
            refine va_bald (f := (F 31)) hx hb hK hP 20 0 rfl rfl (inbV hi38) dX12_stands_38 ?_
            refine lv_aload_n hx hb dX12_stands_39 rfl (lv_at hl 0 rfl) ?_
            refine va_get (D := (dC, dI)) (ci := 12) (v := .ref (q 14)) (C := RX12) (T := TX12) (N := 71) hx hb hts inX12 hown hK hP 0 rfl rfl 14 (by decide) (hts (.fieldLink RX12 30 "SpellTurnerModel" "lawText" "[B") im_72) (fun _ h9 => h9) rfl dX12_stands_40 ?_
            refine lv_bipush (v := 16) hx hb dX12_stands_43 (by decide +kernel) ?_
            refine lv_iload_n hx hb dX12_stands_45 rfl (lv_at hl 1 rfl) ?_
            refine lv_imul hx hb dX12_stands_46 ?_
            refine lv_iload hx hb dX12_stands_47 (lv_at hl 4 rfl) ?_
            refine lv_iadd hx hb dX12_stands_49 ?_
            replace hr := iteS hr
            obtain ⟨hi50, hr⟩ := hr
            refine va_bald (f := (F 14)) hx hb hK hP 6 0 rfl rfl (inbV hi50) dX12_stands_50 ?_
            refine lv_icmp_eq (tgt := 56) hx hb dX12_stands_51 (by decide) (fun c51 => ?_) (fun c51 => ?_)
            · replace hr := iteT c51 hr
              refine lv_iinc (v := (y22_5 + 1)) (lv' := [(5, .int (y22_5 + 1)), (0, .ref h0), (1, .int p0), (2, .ref (q 31)), (3, .int p2)]) hx hb dX12_stands_56 hl (k := 4) rfl rfl (by decide) rfl (fun ls hl => ?_)
              refine lv_goto (tgt := 22) hx hb dX12_stands_59 (by decide) ?_
              exact ih22 (y22_5 + 1) H _ ls hr hP hD hS (lv_sub hl [1, 2, 3, 4, 0] rfl)
            · replace hr := iteF c51 hr
              refine lv_iconst (v := 0) hx hb dX12_stands_54 (by decide +kernel) ?_
              exact K 55 ls _ H _ hr (by decide) dX12_stands_55 hP hD hS
      exact lp22 NN 0 H _ ls hr hP hD hS (lv_sub hl [1, 2, 3, 4, 0] rfl)
    · replace hr := iteF c14 hr
      exact Jj17 H _ ls hr hP hD hS (lv_sub hl [] rfl)
set_option maxHeartbeats 4000000 in
set_option maxRecDepth 100000 in
theorem m_stands_31 (l : Launch) (dC : Nat → ClassId) (dI : Nat → Nat → Nat) (sz : Nat) (h0 : Nat) (kB kI kZ : ClassId) (q : Nat → Nat) (g : Nat → Int32) (F : Nat → Nat → Int32) (p0 : Int32) (p2 : Int32) (p3 : Int32) (r : Int32) (hr : f_stands g F p0 (F 31) 400 p2 p3 = some r) : Met l yX12_stands vmX12_stands ({ frames := 2, cells := 0, slots := 0, locals := 60 } : Room) (va_Pc [.ref h0, .int p0, .ref (q 31), .int p2, .int p3] (fun U => U.heap.size = sz ∧ va_P (dC, dI) vwCl (mW h0 kB kI kZ q g F) U.heap ∧ va_K (dC, dI) vwCl (mT kB kI kZ) U ∧ va_D (fun _ => True) (mW h0 kB kI kZ q g F))) (va_Qi (fun (rz : Int32) (_ : Unit) => rz = r) (fun _ t => va_P (dC, dI) vwCl (mW h0 kB kI kZ q g F) t.heap ∧ va_K (dC, dI) vwCl (mT kB kI kZ) t ∧ va_D (va_A (mW h0 kB kI kZ q g F) sz) (mW h0 kB kI kZ q g F)) (va_A (mW h0 kB kI kZ q g F) sz)) 0 0 (va_A (mW h0 kB kI kZ q g F) sz) := by
  refine Met.ofW (cc := cX12_stands) (maxL := 6) (ret := (some .boolean)) (by decide) rfl ?_
  intro p e s m args below meth c s₁ B hml hv
  obtain ⟨rfl, hsz, hP, hK, hD0⟩ := hv
  have hx := B.exec
  have hb := B.bytes
  have hrt := B.returns
  have hts := atoms_spec (ws := vmX12_stands) B.pre
  have hown : s.vm.findClass RX12 = some m.cls := findClass_of_methodNamed B.named
  subst hsz
  have hD := hD0.self (sz := s.heap.size)
  generalize hAe : va_A (mW h0 kB kI kZ q g F) s.heap.size = A at hD ⊢
  have hA : ∀ q : Nat, s.heap.size ≤ q → A q := fun q h => by rw [← hAe]; exact Or.inr h
  have hS : va_S A s.heap s.heap [] := va_S.rf
  have hl := lv_entry ([.ref h0, .int p0, .ref (q 31), .int p2, .int p3]) (n := 6) (Nat.le_of_ble_eq_true rfl)
  rw [lg_entry_eq]
  generalize (lg_sl ([.ref h0, .int p0, .ref (q 31), .int p2, .int p3]) ++ List.replicate (6 - (lg_sl ([.ref h0, .int p0, .ref (q 31), .int p2, .int p3])).length) Slot.unset).toArray = ls at hl ⊢
  exact bm_stands_31 p0 p2 p3 r hr hx hb hml hown hts hA hK hP hD hS hl (fun pc ls rz H locs he hz hd hP hD hS => by cases he; exact W.zret (v := r) hx hb hrt (z_nb hz) (fun t ht hW => ⟨⟨r, (), rfl, rfl, by rw [ht]; exact hP, va_K.moved hW.alike hK, hD⟩, hS.F ht⟩) hS.2.2 hd)
set_option maxHeartbeats 4000000 in
set_option maxRecDepth 100000 in
theorem bm_lawThrough {p : Program} {l : Launch} {e : Env} {s : State} {m : MethodId} {args : Array Value} {below : List Frame} {meth : Method} {c : Code} {Q : State → Prop} {A : Nat → Prop} {dC : Nat → ClassId} {dI : Nat → Nat → Nat} {h0 : Nat} {kB kI kZ : ClassId} {q : Nat → Nat} {g : Nat → Int32} {F : Nat → Nat → Int32} {H : Heap} {locs : List Loc} {ls : Array Slot} (p0 : Int32) (c_g30 : Int32) (c_g36 : Int32) (c_F29 : (Nat → Int32)) (c_F31 : (Nat → Int32)) (hr : f_lawThrough g F p0 = some (c_g30, c_g36, c_F29, c_F31)) (hx : p.tables.exec = Jvm.exec) (hb : c.code = cX12_lawThrough) (hml : c.maxLocals = 8) (hown : s.vm.findClass RX12 = some m.cls) (hts : ∀ w ∈ vmX12_lawThrough, w.before args s = true) (hA : ∀ q : Nat, s.heap.size ≤ q → A q) (hK : va_K (dC, dI) vwCl (mT kB kI kZ) s) (hP : va_P (dC, dI) vwCl (mW h0 kB kI kZ q g F) H) (hD : va_D A (mW h0 kB kI kZ q g F)) (hS : va_S A s.heap H locs) (hl : lv_has ls 8 [(0, .ref h0), (1, .int p0)])
    (K : ∀ (pc : Nat) (ls : Array Slot) (c_g30z : Int32) (c_g36z : Int32) (c_F29z : (Nat → Int32)) (c_F31z : (Nat → Int32)) (H : Heap) (locs : List Loc), some (c_g30z, c_g36z, c_F29z, c_F31z) = some (c_g30, c_g36, c_F29, c_F31) → decode cX12_lawThrough pc = .ok (.return_, 1) → va_P (dC, dI) vwCl (mW h0 kB kI kZ q (upd (upd g 30 c_g30z) 36 c_g36z) (upF (upF F 29 c_F29z) 31 c_F31z)) H → va_D A (mW h0 kB kI kZ q (upd (upd g 30 c_g30z) 36 c_g36z) (upF (upF F 29 c_F29z) 31 c_F31z)) → va_S A s.heap H locs → W p l e ({ frames := 3, cells := 0, slots := 0, locals := 85 } : Room) s m args below meth c H locs 0 0 Q (F0 m pc ls [])) : W p l e ({ frames := 3, cells := 0, slots := 0, locals := 85 } : Room) s m args below meth c H locs 0 0 Q (F0 m 0 ls []) := by
  unfold f_lawThrough at hr
  refine lv_iconst (v := 0) hx hb dX12_lawThrough_0 (by decide +kernel) ?_
  refine lv_istore_n (lv' := [(2, .int 0), (0, .ref h0), (1, .int p0)]) hx hb dX12_lawThrough_1 rfl hl (by decide) rfl (fun ls hl => ?_)
  refine lv_iconst (v := 0) hx hb dX12_lawThrough_2 (by decide +kernel) ?_
  refine lv_istore_n (lv' := [(3, .int 0), (2, .int 0), (0, .ref h0), (1, .int p0)]) hx hb dX12_lawThrough_3 rfl hl (by decide) rfl (fun ls hl => ?_)
  refine lv_aload_n hx hb dX12_lawThrough_4 rfl (lv_at hl 2 rfl) ?_
  refine va_get (D := (dC, dI)) (ci := 12) (v := .ref (q 15)) (C := RX12) (T := TX12) (N := 71) hx hb hts inX12 hown hK hP 0 rfl rfl 15 (by decide) (hts (.fieldLink RX12 33 "SpellTurnerModel" "lawSize" "[I") im_71) (fun _ h9 => h9) rfl dX12_lawThrough_5 ?_
  refine lv_iconst (v := 4) hx hb dX12_lawThrough_8 (by decide +kernel) ?_
  refine lv_iload_n hx hb dX12_lawThrough_9 rfl (lv_at hl 3 rfl) ?_
  refine lv_imul hx hb dX12_lawThrough_10 ?_
  replace hr := iteS hr
  obtain ⟨hi11, hr⟩ := hr
  refine va_iald (f := (F 15)) hx hb hK hP 7 1 rfl rfl (inbV hi11) dX12_lawThrough_11 ?_
  refine lv_topi (fun x12 ex12 => ?_)
  replace hr := vlS hr x12 ex12
  clear ex12
  refine lv_istore (lv' := [(4, .int x12), (3, .int 0), (2, .int 0), (0, .ref h0), (1, .int p0)]) hx hb dX12_lawThrough_12 hl (by decide) rfl (fun ls hl => ?_)
  refine lv_iconst (v := 0) hx hb dX12_lawThrough_14 (by decide +kernel) ?_
  refine lv_istore (lv' := [(5, .int 0), (4, .int x12), (3, .int 0), (2, .int 0), (0, .ref h0), (1, .int p0)]) hx hb dX12_lawThrough_15 hl (by decide) rfl (fun ls hl => ?_)
  replace hr := jnS hr
  obtain ⟨k279, hk279, hr⟩ := hr
  have Jk279 : ∀ (x279_2 : Int32) (x279_5 : Int32) (c279_F31 : (Nat → Int32)) (H : Heap) (locs : List Loc) (ls : Array Slot), k279 x279_2 x279_5 c279_F31 = some (c_g30, c_g36, c_F29, c_F31) → va_P (dC, dI) vwCl (mW h0 kB kI kZ q g (upF F 31 c279_F31)) H → va_D A (mW h0 kB kI kZ q g (upF F 31 c279_F31)) → va_S A s.heap H locs → lv_has ls 8 [(0, .ref h0), (1, .int p0), (2, .int x279_2), (5, .int x279_5)] → W p l e ({ frames := 3, cells := 0, slots := 0, locals := 85 } : Room) s m args below meth c H locs 0 0 Q (F0 m 279 ls []) := by
    intro x279_2 x279_5 c279_F31 H locs ls hr hP hD hS hl
    rw [hk279] at hr
    refine lv_iconst (v := 0) hx hb dX12_lawThrough_279 (by decide +kernel) ?_
    refine lv_istore (lv' := [(6, .int 0), (0, .ref h0), (1, .int p0), (2, .int x279_2), (5, .int x279_5)]) hx hb dX12_lawThrough_280 hl (by decide) rfl (fun ls hl => ?_)
    replace hr := jnS hr
    obtain ⟨k308, hk308, hr⟩ := hr
    have Jk308 : ∀ (c308_F29 : (Nat → Int32)) (H : Heap) (locs : List Loc) (ls : Array Slot), k308 c308_F29 = some (c_g30, c_g36, c_F29, c_F31) → va_P (dC, dI) vwCl (mW h0 kB kI kZ q g (upF (upF F 29 c308_F29) 31 c279_F31)) H → va_D A (mW h0 kB kI kZ q g (upF (upF F 29 c308_F29) 31 c279_F31)) → va_S A s.heap H locs → lv_has ls 8 [(0, .ref h0), (1, .int p0), (2, .int x279_2), (5, .int x279_5)] → W p l e ({ frames := 3, cells := 0, slots := 0, locals := 85 } : Room) s m args below meth c H locs 0 0 Q (F0 m 308 ls []) := by
      intro c308_F29 H locs ls hr hP hD hS hl
      rw [hk308] at hr
      refine lv_aload_n hx hb dX12_lawThrough_308 rfl (lv_at hl 0 rfl) ?_
      refine lv_iload_n hx hb dX12_lawThrough_309 rfl (lv_at hl 2 rfl) ?_
      refine va_put (D := (dC, dI)) (ci := 12) (v := .int x279_2) (ty := .int) (C := RX12) (T := TX12) (N := 71) hx hb hts inX12 tyX12 tyX12_ok nmX12 hown hK hP hD hS 0 rfl rfl 30 (by decide) (hts (.fieldLink RX12 253 "SpellTurnerModel" "partLetters" "I") im_147) (fun _ h9 => h9) rfl (by decide +kernel) rfl rfl (Nat.le_of_ble_eq_true rfl) dX12_lawThrough_310 (fun H locs hP hD hS => ?_)
      have hP : va_P (dC, dI) vwCl (mW h0 kB kI kZ q (upd g 30 x279_2) (upF (upF F 29 c308_F29) 31 c279_F31)) H := by first | exact sP_g30 hP rfl | exact sP_g30 hP upd_same | exact hP
      have hD : va_D A (mW h0 kB kI kZ q (upd g 30 x279_2) (upF (upF F 29 c308_F29) 31 c279_F31)) := by first | exact sD_g30 hD rfl | exact sD_g30 hD upd_same | exact hD
      refine lv_aload_n hx hb dX12_lawThrough_313 rfl (lv_at hl 0 rfl) ?_
      refine lv_aload_n hx hb dX12_lawThrough_314 rfl (lv_at hl 0 rfl) ?_
      refine va_get (D := (dC, dI)) (ci := 12) (v := .int (g 36)) (C := RX12) (T := TX12) (N := 71) hx hb hts inX12 hown hK hP 0 rfl rfl 36 (by decide) (hts (.fieldLink RX12 260 "SpellTurnerModel" "isUsed" "Z") im_148) (fun _ h9 => h9) rfl dX12_lawThrough_315 ?_
      replace hr := jnS hr
      obtain ⟨j339, hj339, hr⟩ := hr
      have Jj339 : ∀ (t339_0 : Int32) (H : Heap) (locs : List Loc) (ls : Array Slot), j339 t339_0 = some (c_g30, c_g36, c_F29, c_F31) → va_P (dC, dI) vwCl (mW h0 kB kI kZ q (upd g 30 x279_2) (upF (upF F 29 c308_F29) 31 c279_F31)) H → va_D A (mW h0 kB kI kZ q (upd g 30 x279_2) (upF (upF F 29 c308_F29) 31 c279_F31)) → va_S A s.heap H locs → lv_has ls 8 [] → W p l e ({ frames := 3, cells := 0, slots := 0, locals := 85 } : Room) s m args below meth c H locs 0 0 Q (F0 m 339 ls [.int t339_0, .ref h0]) := by
        intro t339_0 H locs ls hr hP hD hS hl
        rw [hj339] at hr
        replace hr := iteS hr
        obtain ⟨hz339, hr⟩ := hr
        refine va_put (D := (dC, dI)) (ci := 12) (v := .int t339_0) (ty := .boolean) (C := RX12) (T := TX12) (N := 71) hx hb hts inX12 tyX12 tyX12_ok nmX12 hown hK hP hD hS 0 rfl rfl 36 (by decide) (hts (.fieldLink RX12 260 "SpellTurnerModel" "isUsed" "Z") im_148) (fun _ h9 => h9) rfl (by decide +kernel) (z_nb hz339) (z_fb hz339) (Nat.le_of_ble_eq_true rfl) dX12_lawThrough_339 (fun H locs hP hD hS => ?_)
        have hP : va_P (dC, dI) vwCl (mW h0 kB kI kZ q (upd (upd g 30 x279_2) 36 t339_0) (upF (upF F 29 c308_F29) 31 c279_F31)) H := by first | exact sP_g36 hP rfl | exact sP_g36 hP upd_same | exact hP
        have hD : va_D A (mW h0 kB kI kZ q (upd (upd g 30 x279_2) 36 t339_0) (upF (upF F 29 c308_F29) 31 c279_F31)) := by first | exact sD_g36 hD rfl | exact sD_g36 hD upd_same | exact hD
        first | exact K 342 ls _ _ _ _ H _ hr dX12_lawThrough_342 (sP_eq (mW_cg (by repeat (first | with_reducible rfl | with_reducible refine upd_cg ?_ | refine Eq.trans ?_ (upd_id rfl))) (by repeat (first | with_reducible rfl | with_reducible refine upF_cg ?_ | refine Eq.trans ?_ (upF_id rfl)))) hP) (sD_eq (mW_cg (by repeat (first | with_reducible rfl | with_reducible refine upd_cg ?_ | refine Eq.trans ?_ (upd_id rfl))) (by repeat (first | with_reducible rfl | with_reducible refine upF_cg ?_ | refine Eq.trans ?_ (upF_id rfl)))) hD) hS | exact K 342 ls _ _ _ _ H _ hr dX12_lawThrough_342 hP hD hS
      replace hr := jnS hr
      obtain ⟨j334, hj334, hr⟩ := hr
      have Jj334 : ∀ (H : Heap) (locs : List Loc) (ls : Array Slot), j334 () = some (c_g30, c_g36, c_F29, c_F31) → va_P (dC, dI) vwCl (mW h0 kB kI kZ q (upd g 30 x279_2) (upF (upF F 29 c308_F29) 31 c279_F31)) H → va_D A (mW h0 kB kI kZ q (upd g 30 x279_2) (upF (upF F 29 c308_F29) 31 c279_F31)) → va_S A s.heap H locs → lv_has ls 8 [] → W p l e ({ frames := 3, cells := 0, slots := 0, locals := 85 } : Room) s m args below meth c H locs 0 0 Q (F0 m 334 ls [.ref h0]) := by
        intro H locs ls hr hP hD hS hl
        rw [hj334] at hr
        refine lv_iconst (v := 1) hx hb dX12_lawThrough_334 (by decide +kernel) ?_
        refine lv_goto (tgt := 339) hx hb dX12_lawThrough_335 (by decide) ?_
        exact Jj339 1 H _ ls hr hP hD hS (lv_sub hl [] rfl)
      refine lv_if_ne (tgt := 334) hx hb dX12_lawThrough_318 (by decide) (fun c318 => ?_) (fun c318 => ?_)
      · replace hr := iteF c318 hr
        exact Jj334 H _ ls hr hP hD hS (lv_sub hl [] rfl)
      · replace hr := iteT c318 hr
        refine lv_iload hx hb dX12_lawThrough_321 (lv_at hl 3 rfl) ?_
        replace hr := jnS hr
        obtain ⟨j338, hj338, hr⟩ := hr
        have Jj338 : ∀ (H : Heap) (locs : List Loc) (ls : Array Slot), j338 () = some (c_g30, c_g36, c_F29, c_F31) → va_P (dC, dI) vwCl (mW h0 kB kI kZ q (upd g 30 x279_2) (upF (upF F 29 c308_F29) 31 c279_F31)) H → va_D A (mW h0 kB kI kZ q (upd g 30 x279_2) (upF (upF F 29 c308_F29) 31 c279_F31)) → va_S A s.heap H locs → lv_has ls 8 [] → W p l e ({ frames := 3, cells := 0, slots := 0, locals := 85 } : Room) s m args below meth c H locs 0 0 Q (F0 m 338 ls [.ref h0]) := by
          intro H locs ls hr hP hD hS hl
          rw [hj338] at hr
          refine lv_iconst (v := 0) hx hb dX12_lawThrough_338 (by decide +kernel) ?_
          exact Jj339 0 H _ ls hr hP hD hS (lv_sub hl [] rfl)
        refine lv_if_eq (tgt := 338) hx hb dX12_lawThrough_323 (by decide) (fun c323 => ?_) (fun c323 => ?_)
        · replace hr := iteT c323 hr
          exact Jj338 H _ ls hr hP hD hS (lv_sub hl [] rfl)
        · replace hr := iteF c323 hr
          refine lv_iload_n hx hb dX12_lawThrough_326 rfl (lv_at hl 1 rfl) ?_
          refine lv_aload_n hx hb dX12_lawThrough_327 rfl (lv_at hl 0 rfl) ?_
          refine va_get (D := (dC, dI)) (ci := 12) (v := .int (g 35)) (C := RX12) (T := TX12) (N := 71) hx hb hts inX12 hown hK hP 0 rfl rfl 35 (by decide) (hts (.fieldLink RX12 263 "SpellTurnerModel" "lawAsked" "I") im_149) (fun _ h9 => h9) rfl dX12_lawThrough_328 ?_
          refine lv_icmp_ne (tgt := 338) hx hb dX12_lawThrough_331 (by decide) (fun c331 => ?_) (fun c331 => ?_)
          · replace hr := iteF c331 hr
            exact Jj338 H _ ls hr hP hD hS (lv_sub hl [] rfl)
          · replace hr := iteT c331 hr
            exact Jj334 H _ ls hr hP hD hS (lv_sub hl [] rfl)
    have lp282 : ∀ (n282 : Nat) (y282_6 : Int32) (d282_F29 : (Nat → Int32)) (H : Heap) (locs : List Loc) (ls : Array Slot), L_lawThrough_282 x279_2 c279_F31 k308 n282 y282_6 d282_F29 = some (c_g30, c_g36, c_F29, c_F31) → va_P (dC, dI) vwCl (mW h0 kB kI kZ q g (upF (upF F 29 d282_F29) 31 c279_F31)) H → va_D A (mW h0 kB kI kZ q g (upF (upF F 29 d282_F29) 31 c279_F31)) → va_S A s.heap H locs → lv_has ls 8 [(0, .ref h0), (1, .int p0), (2, .int x279_2), (5, .int x279_5), (6, .int y282_6)] → W p l e ({ frames := 3, cells := 0, slots := 0, locals := 85 } : Room) s m args below meth c H locs 0 0 Q (F0 m 282 ls []) := by
      intro n282
      induction n282 with
      | zero => intro y282_6 d282_F29 H locs ls hr; exact nomatch (show none = some (c_g30, c_g36, c_F29, c_F31) from hr)
      | succ n282 ih282 =>
        intro y282_6 d282_F29 H locs ls hr hP hD hS hl
        replace hr : B_lawThrough_282 x279_2 c279_F31 k308 (L_lawThrough_282 x279_2 c279_F31 k308 n282) y282_6 d282_F29 = some (c_g30, c_g36, c_F29, c_F31) := hr
        unfold B_lawThrough_282 at hr
        refine lv_iload hx hb dX12_lawThrough_282 (lv_at hl 4 rfl) ?_
        refine lv_iload_n hx hb dX12_lawThrough_284 rfl (lv_at hl 2 rfl) ?_
        refine lv_icmp_ge (tgt := 308) hx hb dX12_lawThrough_285 (by decide) (fun c285 => ?_) (fun c285 => ?_)
        · replace hr := iteT c285 hr
          exact Jk308 d282_F29 H _ ls hr hP hD hS (lv_sub hl [0, 1, 2, 3] rfl)
        · replace hr := iteF c285 hr
          refine lv_aload_n hx hb dX12_lawThrough_288 rfl (lv_at hl 0 rfl) ?_
          refine va_get (D := (dC, dI)) (ci := 12) (v := .ref (q 29)) (C := RX12) (T := TX12) (N := 71) hx hb hts inX12 hown hK hP 0 rfl rfl 29 (by decide) (hts (.fieldLink RX12 70 "SpellTurnerModel" "part" "[B") im_150) (fun _ h9 => h9) rfl dX12_lawThrough_289 ?_
          refine lv_iload hx hb dX12_lawThrough_292 (lv_at hl 4 rfl) ?_
          refine lv_aload_n hx hb dX12_lawThrough_294 rfl (lv_at hl 0 rfl) ?_
          refine va_get (D := (dC, dI)) (ci := 12) (v := .ref (q 31)) (C := RX12) (T := TX12) (N := 71) hx hb hts inX12 hown hK hP 0 rfl rfl 31 (by decide) (hts (.fieldLink RX12 73 "SpellTurnerModel" "written" "[B") im_151) (fun _ h9 => h9) rfl dX12_lawThrough_295 ?_
          refine lv_iload hx hb dX12_lawThrough_298 (lv_at hl 4 rfl) ?_
          replace hr := iteS hr
          obtain ⟨hi300, hr⟩ := hr
          refine va_bald (f := c279_F31) hx hb hK hP 20 0 rfl rfl (inbV hi300) dX12_lawThrough_300 ?_
          replace hr := iteS hr
          obtain ⟨hi301, hr⟩ := hr
          refine va_bast (f := d282_F29) hx hb hK hP hD hS 19 0 rfl rfl (inbV hi301) dX12_lawThrough_301 (fun H locs hP hD hS => ?_)
          obtain ⟨w301, ew301, hP, hD⟩ : ∃ w301 : Nat → Int32, w301 = (upd d282_F29 (Int32.toNatClampNeg y282_6) (vp_nar .byte (c279_F31 (Int32.toNatClampNeg y282_6)))) ∧ va_P (dC, dI) vwCl (mW h0 kB kI kZ q g (upF (upF F 29 w301) 31 c279_F31)) H ∧ va_D A (mW h0 kB kI kZ q g (upF (upF F 29 w301) 31 c279_F31)) := ⟨(upd d282_F29 (Int32.toNatClampNeg y282_6) (vp_nar .byte (c279_F31 (Int32.toNatClampNeg y282_6)))), rfl, by first | exact sP_F29 hP (upF_in (by decide) upF_same) | exact sP_F29 hP (upF_in (by decide) rfl) | exact hP, by first | exact sD_F29 hD (upF_in (by decide) upF_same) | exact sD_F29 hD (upF_in (by decide) rfl) | exact hD⟩
          replace hr := vlS hr w301 ew301
          clear ew301
          refine lv_iinc (v := (y282_6 + 1)) (lv' := [(6, .int (y282_6 + 1)), (0, .ref h0), (1, .int p0), (2, .int x279_2), (5, .int x279_5)]) hx hb dX12_lawThrough_302 hl (k := 4) rfl rfl (by decide) rfl (fun ls hl => ?_)
          refine lv_goto (tgt := 282) hx hb dX12_lawThrough_305 (by decide) ?_
          exact ih282 (y282_6 + 1) w301 H _ ls hr hP hD hS (lv_sub hl [1, 2, 3, 4, 0] rfl)
    first | exact lp282 NN 0 (F 29) H _ ls hr (sP_eq (mW_cg (by repeat (first | with_reducible rfl | with_reducible refine upd_cg ?_ | refine Eq.trans ?_ (upd_id rfl))) (by repeat (first | with_reducible rfl | with_reducible refine upF_cg ?_ | refine Eq.trans ?_ (upF_id rfl)))) hP) (sD_eq (mW_cg (by repeat (first | with_reducible rfl | with_reducible refine upd_cg ?_ | refine Eq.trans ?_ (upd_id rfl))) (by repeat (first | with_reducible rfl | with_reducible refine upF_cg ?_ | refine Eq.trans ?_ (upF_id rfl)))) hD) hS (lv_sub hl [1, 2, 3, 4, 0] rfl) | exact lp282 NN 0 (F 29) H _ ls hr hP hD hS (lv_sub hl [1, 2, 3, 4, 0] rfl)
  have lp17 : ∀ (n17 : Nat) (y17_2 : Int32) (y17_3 : Int32) (y17_5 : Int32) (d17_F31 : (Nat → Int32)) (H : Heap) (locs : List Loc) (ls : Array Slot), L_lawThrough_17 g F p0 x12 k279 n17 y17_2 y17_3 y17_5 d17_F31 = some (c_g30, c_g36, c_F29, c_F31) → va_P (dC, dI) vwCl (mW h0 kB kI kZ q g (upF F 31 d17_F31)) H → va_D A (mW h0 kB kI kZ q g (upF F 31 d17_F31)) → va_S A s.heap H locs → lv_has ls 8 [(0, .ref h0), (1, .int p0), (2, .int y17_2), (3, .int y17_3), (4, .int x12), (5, .int y17_5)] → W p l e ({ frames := 3, cells := 0, slots := 0, locals := 85 } : Room) s m args below meth c H locs 0 0 Q (F0 m 17 ls []) := by
    intro n17
    induction n17 with
    | zero => intro y17_2 y17_3 y17_5 d17_F31 H locs ls hr; exact nomatch (show none = some (c_g30, c_g36, c_F29, c_F31) from hr)
    | succ n17 ih17 =>
      intro y17_2 y17_3 y17_5 d17_F31 H locs ls hr hP hD hS hl
      replace hr : B_lawThrough_17 g F p0 x12 k279 (L_lawThrough_17 g F p0 x12 k279 n17) y17_2 y17_3 y17_5 d17_F31 = some (c_g30, c_g36, c_F29, c_F31) := hr
      unfold B_lawThrough_17 at hr
      refine lv_iload_n hx hb dX12_lawThrough_17 rfl (lv_at hl 3 rfl) ?_
      refine lv_aload_n hx hb dX12_lawThrough_18 rfl (lv_at hl 0 rfl) ?_
      refine va_get (D := (dC, dI)) (ci := 12) (v := .int (g 30)) (C := RX12) (T := TX12) (N := 71) hx hb hts inX12 hown hK hP 0 rfl rfl 30 (by decide) (hts (.fieldLink RX12 253 "SpellTurnerModel" "partLetters" "I") im_147) (fun _ h9 => h9) rfl dX12_lawThrough_19 ?_
      refine lv_icmp_ge (tgt := 279) hx hb dX12_lawThrough_22 (by decide) (fun c22 => ?_) (fun c22 => ?_)
      · replace hr := iteT c22 hr
        exact Jk279 y17_2 y17_5 d17_F31 H _ ls hr hP hD hS (lv_sub hl [0, 1, 2, 5] rfl)
      · replace hr := iteF c22 hr
        refine lv_aload_n hx hb dX12_lawThrough_25 rfl (lv_at hl 0 rfl) ?_
        refine lv_iconst (v := 4) hx hb dX12_lawThrough_26 (by decide +kernel) ?_
        refine lv_iload_n hx hb dX12_lawThrough_27 rfl (lv_at hl 1 rfl) ?_
        refine lv_imul hx hb dX12_lawThrough_28 ?_
        refine lv_aload_n hx hb dX12_lawThrough_29 rfl (lv_at hl 0 rfl) ?_
        refine va_get (D := (dC, dI)) (ci := 12) (v := .ref (q 29)) (C := RX12) (T := TX12) (N := 71) hx hb hts inX12 hown hK hP 0 rfl rfl 29 (by decide) (hts (.fieldLink RX12 70 "SpellTurnerModel" "part" "[B") im_150) (fun _ h9 => h9) rfl dX12_lawThrough_30 ?_
        refine lv_iload_n hx hb dX12_lawThrough_33 rfl (lv_at hl 3 rfl) ?_
        refine lv_aload_n hx hb dX12_lawThrough_34 rfl (lv_at hl 0 rfl) ?_
        refine va_get (D := (dC, dI)) (ci := 12) (v := .int (g 30)) (C := RX12) (T := TX12) (N := 71) hx hb hts inX12 hown hK hP 0 rfl rfl 30 (by decide) (hts (.fieldLink RX12 253 "SpellTurnerModel" "partLetters" "I") im_147) (fun _ h9 => h9) rfl dX12_lawThrough_35 ?_
        replace hr := b1S hr
        obtain ⟨r38z, hc38, hr⟩ := hr
        have hFc := fr_all hD hS hA
        refine va_calli (va_runV (As := [.int (4 * p0), .ref (q 29), .int y17_3, .int (g 30)]) (rest := []) ⟨hx, hb, hml, hown, hts⟩ (m_stands_29 l dC dI H.size h0 kB kI kZ q g (upF F 31 d17_F31) (4 * p0) y17_3 (g 30) r38z hc38) (cwV 4 hts gw_X12_stands_256 rfl rfl rfl (by decide +kernel) ⟨Nat.le_of_ble_eq_true rfl, Nat.le_of_ble_eq_true rfl⟩) ⟨fun a U g mk q => by obtain ⟨q0, q1, qP, qK, qD⟩ := q; exact ⟨q0, q1, qP, va_K.moved (u := U) (U := U.calling g mk a) (Vm.Alike.refl U.vm) qK, qD⟩, va_recv hK hP (ci := 12) (q0 := 0) rfl rfl, fun U hU hW => ⟨rfl, by rw [hU], by rw [hU]; exact hP, va_K.moved hW.alike hK, hD.weaken (fun _ _ _ _ => trivial)⟩⟩ rfl rfl hl.1 rfl (lv_room (Nat.le_of_ble_eq_true rfl)) dX12_lawThrough_38 ⟨Nat.le_of_ble_eq_true rfl, Nat.le_of_ble_eq_true rfl⟩) hS (fun q _ h => hFc q h) hFc (fun r38 u t H1 locs ht hvm hw hB hz1 hk1 hS => ?_)
        replace hw : r38 = r38z := hw
        subst hw
        obtain ⟨hP1, hK1, hD1⟩ := hB
        rw [ht] at hP1
        obtain ⟨hP, hD⟩ := jn_all (w1 := (mW h0 kB kI kZ q g (upF F 31 d17_F31))) hFc hP1 hD1
        clear hFc hP1 hK1 hD1 hk1 hz1 ht hvm
        generalize H1 = H at hP hS ⊢
        have hP : va_P (dC, dI) vwCl (mW h0 kB kI kZ q g (upF F 31 d17_F31)) H := hP
        have hD : va_D A (mW h0 kB kI kZ q g (upF F 31 d17_F31)) := hD
        refine lv_istore (lv' := [(6, .int r38), (0, .ref h0), (1, .int p0), (2, .int y17_2), (3, .int y17_3), (4, .int x12), (5, .int y17_5)]) hx hb dX12_lawThrough_41 hl (by decide) rfl (fun ls hl => ?_)
        refine lv_iload hx hb dX12_lawThrough_43 (lv_at hl 0 rfl) ?_
        replace hr := jnS hr
        obtain ⟨j86, hj86, hr⟩ := hr
        have Jj86 : ∀ (t86_0 : Int32) (H : Heap) (locs : List Loc) (ls : Array Slot), j86 t86_0 = some (c_g30, c_g36, c_F29, c_F31) → va_P (dC, dI) vwCl (mW h0 kB kI kZ q g (upF F 31 d17_F31)) H → va_D A (mW h0 kB kI kZ q g (upF F 31 d17_F31)) → va_S A s.heap H locs → lv_has ls 8 [(0, .ref h0), (1, .int p0), (2, .int y17_2), (3, .int y17_3), (4, .int x12), (5, .int y17_5)] → W p l e ({ frames := 3, cells := 0, slots := 0, locals := 85 } : Room) s m args below meth c H locs 0 0 Q (F0 m 86 ls [.int t86_0]) := by
          intro t86_0 H locs ls hr hP hD hS hl
          rw [hj86] at hr
          refine lv_istore (lv' := [(6, .int t86_0), (0, .ref h0), (1, .int p0), (2, .int y17_2), (3, .int y17_3), (4, .int x12), (5, .int y17_5)]) hx hb dX12_lawThrough_86 hl (by decide) rfl (fun ls hl => ?_)
          refine lv_iload hx hb dX12_lawThrough_88 (lv_at hl 0 rfl) ?_
          replace hr := jnS hr
          obtain ⟨j141, hj141, hr⟩ := hr
          have Jj141 : ∀ (t141_0 : Int32) (H : Heap) (locs : List Loc) (ls : Array Slot), j141 t141_0 = some (c_g30, c_g36, c_F29, c_F31) → va_P (dC, dI) vwCl (mW h0 kB kI kZ q g (upF F 31 d17_F31)) H → va_D A (mW h0 kB kI kZ q g (upF F 31 d17_F31)) → va_S A s.heap H locs → lv_has ls 8 [(0, .ref h0), (1, .int p0), (2, .int y17_2), (3, .int y17_3), (4, .int x12), (5, .int y17_5)] → W p l e ({ frames := 3, cells := 0, slots := 0, locals := 85 } : Room) s m args below meth c H locs 0 0 Q (F0 m 141 ls [.int t141_0]) := by
            intro t141_0 H locs ls hr hP hD hS hl
            rw [hj141] at hr
            refine lv_istore (lv' := [(6, .int t141_0), (0, .ref h0), (1, .int p0), (2, .int y17_2), (3, .int y17_3), (4, .int x12), (5, .int y17_5)]) hx hb dX12_lawThrough_141 hl (by decide) rfl (fun ls hl => ?_)
            refine lv_iload hx hb dX12_lawThrough_143 (lv_at hl 0 rfl) ?_
            replace hr := jnS hr
            obtain ⟨j191, hj191, hr⟩ := hr
            have Jj191 : ∀ (t191_0 : Int32) (H : Heap) (locs : List Loc) (ls : Array Slot), j191 t191_0 = some (c_g30, c_g36, c_F29, c_F31) → va_P (dC, dI) vwCl (mW h0 kB kI kZ q g (upF F 31 d17_F31)) H → va_D A (mW h0 kB kI kZ q g (upF F 31 d17_F31)) → va_S A s.heap H locs → lv_has ls 8 [(0, .ref h0), (1, .int p0), (2, .int y17_2), (3, .int y17_3), (4, .int x12), (5, .int y17_5)] → W p l e ({ frames := 3, cells := 0, slots := 0, locals := 85 } : Room) s m args below meth c H locs 0 0 Q (F0 m 191 ls [.int t191_0]) := by
              intro t191_0 H locs ls hr hP hD hS hl
              rw [hj191] at hr
              refine lv_istore (lv' := [(6, .int t191_0), (0, .ref h0), (1, .int p0), (2, .int y17_2), (3, .int y17_3), (4, .int x12), (5, .int y17_5)]) hx hb dX12_lawThrough_191 hl (by decide) rfl (fun ls hl => ?_)
              refine lv_iload hx hb dX12_lawThrough_193 (lv_at hl 0 rfl) ?_
              refine lv_if_ne (tgt := 219) hx hb dX12_lawThrough_195 (by decide) (fun c195 => ?_) (fun c195 => ?_)
              · replace hr := iteF c195 hr
                refine lv_iconst (v := 1) hx hb dX12_lawThrough_219 (by decide +kernel) ?_
                refine lv_istore (lv' := [(5, .int 1), (6, .int t191_0), (0, .ref h0), (1, .int p0), (2, .int y17_2), (3, .int y17_3), (4, .int x12)]) hx hb dX12_lawThrough_220 hl (by decide) rfl (fun ls hl => ?_)
                refine lv_iconst (v := 0) hx hb dX12_lawThrough_222 (by decide +kernel) ?_
                refine lv_istore (lv' := [(7, .int 0), (5, .int 1), (6, .int t191_0), (0, .ref h0), (1, .int p0), (2, .int y17_2), (3, .int y17_3), (4, .int x12)]) hx hb dX12_lawThrough_223 hl (by decide) rfl (fun ls hl => ?_)
                replace hr := jnS hr
                obtain ⟨k271, hk271, hr⟩ := hr
                have Jk271 : ∀ (x271_2 : Int32) (c271_F31 : (Nat → Int32)) (H : Heap) (locs : List Loc) (ls : Array Slot), k271 x271_2 c271_F31 = some (c_g30, c_g36, c_F29, c_F31) → va_P (dC, dI) vwCl (mW h0 kB kI kZ q g (upF F 31 c271_F31)) H → va_D A (mW h0 kB kI kZ q g (upF F 31 c271_F31)) → va_S A s.heap H locs → lv_has ls 8 [(0, .ref h0), (1, .int p0), (2, .int x271_2), (3, .int y17_3), (4, .int x12), (5, .int 1)] → W p l e ({ frames := 3, cells := 0, slots := 0, locals := 85 } : Room) s m args below meth c H locs 0 0 Q (F0 m 271 ls []) := by
                  intro x271_2 c271_F31 H locs ls hr hP hD hS hl
                  rw [hk271] at hr
                  refine lv_iload_n hx hb dX12_lawThrough_271 rfl (lv_at hl 3 rfl) ?_
                  refine lv_iload hx hb dX12_lawThrough_272 (lv_at hl 4 rfl) ?_
                  refine lv_iadd hx hb dX12_lawThrough_274 ?_
                  refine lv_topi (fun x275 ex275 => ?_)
                  replace hr := vlS hr x275 ex275
                  clear ex275
                  refine lv_istore_n (lv' := [(3, .int x275), (0, .ref h0), (1, .int p0), (2, .int x271_2), (4, .int x12), (5, .int 1)]) hx hb dX12_lawThrough_275 rfl hl (by decide) rfl (fun ls hl => ?_)
                  refine lv_goto (tgt := 17) hx hb dX12_lawThrough_276 (by decide) ?_
                  exact ih17 x271_2 x275 1 c271_F31 H _ ls hr hP hD hS (lv_sub hl [1, 2, 3, 0, 4, 5] rfl)
                have lp225 : ∀ (n225 : Nat) (y225_2 : Int32) (y225_7 : Int32) (d225_F31 : (Nat → Int32)) (H : Heap) (locs : List Loc) (ls : Array Slot), L_lawThrough_225 F p0 k271 n225 y225_2 y225_7 d225_F31 = some (c_g30, c_g36, c_F29, c_F31) → va_P (dC, dI) vwCl (mW h0 kB kI kZ q g (upF F 31 d225_F31)) H → va_D A (mW h0 kB kI kZ q g (upF F 31 d225_F31)) → va_S A s.heap H locs → lv_has ls 8 [(0, .ref h0), (1, .int p0), (2, .int y225_2), (3, .int y17_3), (4, .int x12), (5, .int 1), (7, .int y225_7)] → W p l e ({ frames := 3, cells := 0, slots := 0, locals := 85 } : Room) s m args below meth c H locs 0 0 Q (F0 m 225 ls []) := by
                  intro n225
                  induction n225 with
                  | zero => intro y225_2 y225_7 d225_F31 H locs ls hr; exact nomatch (show none = some (c_g30, c_g36, c_F29, c_F31) from hr)
                  | succ n225 ih225 =>
                    intro y225_2 y225_7 d225_F31 H locs ls hr hP hD hS hl
                    replace hr : B_lawThrough_225 F p0 k271 (L_lawThrough_225 F p0 k271 n225) y225_2 y225_7 d225_F31 = some (c_g30, c_g36, c_F29, c_F31) := hr
                    unfold B_lawThrough_225 at hr
                    refine lv_iload hx hb dX12_lawThrough_225 (lv_at hl 6 rfl) ?_
                    refine lv_aload_n hx hb dX12_lawThrough_227 rfl (lv_at hl 0 rfl) ?_
                    refine va_get (D := (dC, dI)) (ci := 12) (v := .ref (q 15)) (C := RX12) (T := TX12) (N := 71) hx hb hts inX12 hown hK hP 0 rfl rfl 15 (by decide) (hts (.fieldLink RX12 33 "SpellTurnerModel" "lawSize" "[I") im_71) (fun _ h9 => h9) rfl dX12_lawThrough_228 ?_
                    refine lv_iconst (v := 4) hx hb dX12_lawThrough_231 (by decide +kernel) ?_
                    refine lv_iload_n hx hb dX12_lawThrough_232 rfl (lv_at hl 1 rfl) ?_
                    refine lv_imul hx hb dX12_lawThrough_233 ?_
                    refine lv_iconst (v := 1) hx hb dX12_lawThrough_234 (by decide +kernel) ?_
                    refine lv_iadd hx hb dX12_lawThrough_235 ?_
                    replace hr := iteS hr
                    obtain ⟨hi236, hr⟩ := hr
                    refine va_iald (f := (F 15)) hx hb hK hP 7 1 rfl rfl (inbV hi236) dX12_lawThrough_236 ?_
                    refine lv_icmp_ge (tgt := 271) hx hb dX12_lawThrough_237 (by decide) (fun c237 => ?_) (fun c237 => ?_)
                    · replace hr := iteT c237 hr
                      exact Jk271 y225_2 d225_F31 H _ ls hr hP hD hS (lv_sub hl [0, 1, 2, 3, 4, 5] rfl)
                    · replace hr := iteF c237 hr
                      refine lv_aload_n hx hb dX12_lawThrough_240 rfl (lv_at hl 0 rfl) ?_
                      refine va_get (D := (dC, dI)) (ci := 12) (v := .ref (q 31)) (C := RX12) (T := TX12) (N := 71) hx hb hts inX12 hown hK hP 0 rfl rfl 31 (by decide) (hts (.fieldLink RX12 73 "SpellTurnerModel" "written" "[B") im_151) (fun _ h9 => h9) rfl dX12_lawThrough_241 ?_
                      refine lv_iload_n hx hb dX12_lawThrough_244 rfl (lv_at hl 2 rfl) ?_
                      refine lv_aload_n hx hb dX12_lawThrough_245 rfl (lv_at hl 0 rfl) ?_
                      refine va_get (D := (dC, dI)) (ci := 12) (v := .ref (q 14)) (C := RX12) (T := TX12) (N := 71) hx hb hts inX12 hown hK hP 0 rfl rfl 14 (by decide) (hts (.fieldLink RX12 30 "SpellTurnerModel" "lawText" "[B") im_72) (fun _ h9 => h9) rfl dX12_lawThrough_246 ?_
                      refine lv_bipush (v := 16) hx hb dX12_lawThrough_249 (by decide +kernel) ?_
                      refine lv_iconst (v := 4) hx hb dX12_lawThrough_251 (by decide +kernel) ?_
                      refine lv_iload_n hx hb dX12_lawThrough_252 rfl (lv_at hl 1 rfl) ?_
                      refine lv_imul hx hb dX12_lawThrough_253 ?_
                      refine lv_iconst (v := 1) hx hb dX12_lawThrough_254 (by decide +kernel) ?_
                      refine lv_iadd hx hb dX12_lawThrough_255 ?_
                      refine lv_imul hx hb dX12_lawThrough_256 ?_
                      refine lv_iload hx hb dX12_lawThrough_257 (lv_at hl 6 rfl) ?_
                      refine lv_iadd hx hb dX12_lawThrough_259 ?_
                      replace hr := iteS hr
                      obtain ⟨hi260, hr⟩ := hr
                      refine va_bald (f := (F 14)) hx hb hK hP 6 0 rfl rfl (inbV hi260) dX12_lawThrough_260 ?_
                      replace hr := iteS hr
                      obtain ⟨hi261, hr⟩ := hr
                      refine va_bast (f := d225_F31) hx hb hK hP hD hS 20 0 rfl rfl (inbV hi261) dX12_lawThrough_261 (fun H locs hP hD hS => ?_)
                      obtain ⟨w261, ew261, hP, hD⟩ : ∃ w261 : Nat → Int32, w261 = (upd d225_F31 (Int32.toNatClampNeg y225_2) (vp_nar .byte ((F 14) (Int32.toNatClampNeg ((16 * ((4 * p0) + 1)) + y225_7))))) ∧ va_P (dC, dI) vwCl (mW h0 kB kI kZ q g (upF F 31 w261)) H ∧ va_D A (mW h0 kB kI kZ q g (upF F 31 w261)) := ⟨(upd d225_F31 (Int32.toNatClampNeg y225_2) (vp_nar .byte ((F 14) (Int32.toNatClampNeg ((16 * ((4 * p0) + 1)) + y225_7))))), rfl, by first | exact sP_F31 hP upF_same | exact sP_F31 hP rfl | exact hP, by first | exact sD_F31 hD upF_same | exact sD_F31 hD rfl | exact hD⟩
                      replace hr := vlS hr w261 ew261
                      clear ew261
                      refine lv_iinc (v := (y225_2 + 1)) (lv' := [(2, .int (y225_2 + 1)), (0, .ref h0), (1, .int p0), (3, .int y17_3), (4, .int x12), (5, .int 1), (7, .int y225_7)]) hx hb dX12_lawThrough_262 hl (k := 2) rfl rfl (by decide) rfl (fun ls hl => ?_)
                      refine lv_iinc (v := (y225_7 + 1)) (lv' := [(7, .int (y225_7 + 1)), (2, .int (y225_2 + 1)), (0, .ref h0), (1, .int p0), (3, .int y17_3), (4, .int x12), (5, .int 1)]) hx hb dX12_lawThrough_265 hl (k := 6) rfl rfl (by decide) rfl (fun ls hl => ?_)
                      refine lv_goto (tgt := 225) hx hb dX12_lawThrough_268 (by decide) ?_
                      exact ih225 (y225_2 + 1) (y225_7 + 1) w261 H _ ls hr hP hD hS (lv_sub hl [2, 3, 1, 4, 5, 6, 0] rfl)
                exact lp225 NN y17_2 0 d17_F31 H _ ls hr hP hD hS (lv_sub hl [3, 4, 5, 6, 7, 1, 0] rfl)
              · replace hr := iteT c195 hr
                refine lv_aload_n hx hb dX12_lawThrough_198 rfl (lv_at hl 1 rfl) ?_
                refine va_get (D := (dC, dI)) (ci := 12) (v := .ref (q 31)) (C := RX12) (T := TX12) (N := 71) hx hb hts inX12 hown hK hP 0 rfl rfl 31 (by decide) (hts (.fieldLink RX12 73 "SpellTurnerModel" "written" "[B") im_151) (fun _ h9 => h9) rfl dX12_lawThrough_199 ?_
                refine lv_iload_n hx hb dX12_lawThrough_202 rfl (lv_at hl 3 rfl) ?_
                refine lv_aload_n hx hb dX12_lawThrough_203 rfl (lv_at hl 1 rfl) ?_
                refine va_get (D := (dC, dI)) (ci := 12) (v := .ref (q 29)) (C := RX12) (T := TX12) (N := 71) hx hb hts inX12 hown hK hP 0 rfl rfl 29 (by decide) (hts (.fieldLink RX12 70 "SpellTurnerModel" "part" "[B") im_150) (fun _ h9 => h9) rfl dX12_lawThrough_204 ?_
                refine lv_iload_n hx hb dX12_lawThrough_207 rfl (lv_at hl 4 rfl) ?_
                replace hr := iteS hr
                obtain ⟨hi208, hr⟩ := hr
                refine va_bald (f := (F 29)) hx hb hK hP 19 0 rfl rfl (inbV hi208) dX12_lawThrough_208 ?_
                replace hr := iteS hr
                obtain ⟨hi209, hr⟩ := hr
                refine va_bast (f := d17_F31) hx hb hK hP hD hS 20 0 rfl rfl (inbV hi209) dX12_lawThrough_209 (fun H locs hP hD hS => ?_)
                obtain ⟨w209, ew209, hP, hD⟩ : ∃ w209 : Nat → Int32, w209 = (upd d17_F31 (Int32.toNatClampNeg y17_2) (vp_nar .byte ((F 29) (Int32.toNatClampNeg y17_3)))) ∧ va_P (dC, dI) vwCl (mW h0 kB kI kZ q g (upF F 31 w209)) H ∧ va_D A (mW h0 kB kI kZ q g (upF F 31 w209)) := ⟨(upd d17_F31 (Int32.toNatClampNeg y17_2) (vp_nar .byte ((F 29) (Int32.toNatClampNeg y17_3)))), rfl, by first | exact sP_F31 hP upF_same | exact sP_F31 hP rfl | exact hP, by first | exact sD_F31 hD upF_same | exact sD_F31 hD rfl | exact hD⟩
                replace hr := vlS hr w209 ew209
                clear ew209
                refine lv_iinc (v := (y17_2 + 1)) (lv' := [(2, .int (y17_2 + 1)), (6, .int t191_0), (0, .ref h0), (1, .int p0), (3, .int y17_3), (4, .int x12), (5, .int y17_5)]) hx hb dX12_lawThrough_210 hl (k := 3) rfl rfl (by decide) rfl (fun ls hl => ?_)
                refine lv_iinc (v := (y17_3 + 1)) (lv' := [(3, .int (y17_3 + 1)), (2, .int (y17_2 + 1)), (6, .int t191_0), (0, .ref h0), (1, .int p0), (4, .int x12), (5, .int y17_5)]) hx hb dX12_lawThrough_213 hl (k := 4) rfl rfl (by decide) rfl (fun ls hl => ?_)
                refine lv_goto (tgt := 17) hx hb dX12_lawThrough_216 (by decide) ?_
                exact ih17 (y17_2 + 1) (y17_3 + 1) y17_5 w209 H _ ls hr hP hD hS (lv_sub hl [3, 4, 1, 0, 5, 6] rfl)
            replace hr := jnS hr
            obtain ⟨j190, hj190, hr⟩ := hr
            have Jj190 : ∀ (H : Heap) (locs : List Loc) (ls : Array Slot), j190 () = some (c_g30, c_g36, c_F29, c_F31) → va_P (dC, dI) vwCl (mW h0 kB kI kZ q g (upF F 31 d17_F31)) H → va_D A (mW h0 kB kI kZ q g (upF F 31 d17_F31)) → va_S A s.heap H locs → lv_has ls 8 [(0, .ref h0), (1, .int p0), (2, .int y17_2), (3, .int y17_3), (4, .int x12), (5, .int y17_5)] → W p l e ({ frames := 3, cells := 0, slots := 0, locals := 85 } : Room) s m args below meth c H locs 0 0 Q (F0 m 190 ls []) := by
              intro H locs ls hr hP hD hS hl
              rw [hj190] at hr
              refine lv_iconst (v := 0) hx hb dX12_lawThrough_190 (by decide +kernel) ?_
              exact Jj191 0 H _ ls hr hP hD hS (lv_sub hl [0, 1, 2, 3, 4, 5] rfl)
            refine lv_if_eq (tgt := 190) hx hb dX12_lawThrough_145 (by decide) (fun c145 => ?_) (fun c145 => ?_)
            · replace hr := iteT c145 hr
              exact Jj190 H _ ls hr hP hD hS (lv_sub hl [1, 2, 3, 4, 5, 6] rfl)
            · replace hr := iteF c145 hr
              refine lv_aload_n hx hb dX12_lawThrough_148 rfl (lv_at hl 1 rfl) ?_
              refine va_get (D := (dC, dI)) (ci := 12) (v := .ref (q 15)) (C := RX12) (T := TX12) (N := 71) hx hb hts inX12 hown hK hP 0 rfl rfl 15 (by decide) (hts (.fieldLink RX12 33 "SpellTurnerModel" "lawSize" "[I") im_71) (fun _ h9 => h9) rfl dX12_lawThrough_149 ?_
              refine lv_iconst (v := 4) hx hb dX12_lawThrough_152 (by decide +kernel) ?_
              refine lv_iload_n hx hb dX12_lawThrough_153 rfl (lv_at hl 2 rfl) ?_
              refine lv_imul hx hb dX12_lawThrough_154 ?_
              refine lv_iconst (v := 3) hx hb dX12_lawThrough_155 (by decide +kernel) ?_
              refine lv_iadd hx hb dX12_lawThrough_156 ?_
              replace hr := iteS hr
              obtain ⟨hi157, hr⟩ := hr
              refine va_iald (f := (F 15)) hx hb hK hP 7 1 rfl rfl (inbV hi157) dX12_lawThrough_157 ?_
              refine lv_iconst (v := (-1)) hx hb dX12_lawThrough_158 (by decide +kernel) ?_
              replace hr := jnS hr
              obtain ⟨j186, hj186, hr⟩ := hr
              have Jj186 : ∀ (H : Heap) (locs : List Loc) (ls : Array Slot), j186 () = some (c_g30, c_g36, c_F29, c_F31) → va_P (dC, dI) vwCl (mW h0 kB kI kZ q g (upF F 31 d17_F31)) H → va_D A (mW h0 kB kI kZ q g (upF F 31 d17_F31)) → va_S A s.heap H locs → lv_has ls 8 [(0, .ref h0), (1, .int p0), (2, .int y17_2), (3, .int y17_3), (4, .int x12), (5, .int y17_5)] → W p l e ({ frames := 3, cells := 0, slots := 0, locals := 85 } : Room) s m args below meth c H locs 0 0 Q (F0 m 186 ls []) := by
                intro H locs ls hr hP hD hS hl
                rw [hj186] at hr
                refine lv_iconst (v := 1) hx hb dX12_lawThrough_186 (by decide +kernel) ?_
                refine lv_goto (tgt := 191) hx hb dX12_lawThrough_187 (by decide) ?_
                exact Jj191 1 H _ ls hr hP hD hS (lv_sub hl [0, 1, 2, 3, 4, 5] rfl)
              refine lv_icmp_eq (tgt := 186) hx hb dX12_lawThrough_159 (by decide) (fun c159 => ?_) (fun c159 => ?_)
              · replace hr := iteT c159 hr
                exact Jj186 H _ ls hr hP hD hS (lv_sub hl [1, 2, 3, 4, 5, 6] rfl)
              · replace hr := iteF c159 hr
                refine lv_aload_n hx hb dX12_lawThrough_162 rfl (lv_at hl 1 rfl) ?_
                refine lv_iconst (v := 4) hx hb dX12_lawThrough_163 (by decide +kernel) ?_
                refine lv_iload_n hx hb dX12_lawThrough_164 rfl (lv_at hl 2 rfl) ?_
                refine lv_imul hx hb dX12_lawThrough_165 ?_
                refine lv_iconst (v := 3) hx hb dX12_lawThrough_166 (by decide +kernel) ?_
                refine lv_iadd hx hb dX12_lawThrough_167 ?_
                refine lv_aload_n hx hb dX12_lawThrough_168 rfl (lv_at hl 1 rfl) ?_
                refine va_get (D := (dC, dI)) (ci := 12) (v := .ref (q 29)) (C := RX12) (T := TX12) (N := 71) hx hb hts inX12 hown hK hP 0 rfl rfl 29 (by decide) (hts (.fieldLink RX12 70 "SpellTurnerModel" "part" "[B") im_150) (fun _ h9 => h9) rfl dX12_lawThrough_169 ?_
                refine lv_iload_n hx hb dX12_lawThrough_172 rfl (lv_at hl 4 rfl) ?_
                refine lv_iload hx hb dX12_lawThrough_173 (lv_at hl 5 rfl) ?_
                refine lv_iadd hx hb dX12_lawThrough_175 ?_
                refine lv_aload_n hx hb dX12_lawThrough_176 rfl (lv_at hl 1 rfl) ?_
                refine va_get (D := (dC, dI)) (ci := 12) (v := .int (g 30)) (C := RX12) (T := TX12) (N := 71) hx hb hts inX12 hown hK hP 0 rfl rfl 30 (by decide) (hts (.fieldLink RX12 253 "SpellTurnerModel" "partLetters" "I") im_147) (fun _ h9 => h9) rfl dX12_lawThrough_177 ?_
                replace hr := b1S hr
                obtain ⟨r180z, hc180, hr⟩ := hr
                have hFc := fr_all hD hS hA
                refine va_calli (va_runV (As := [.int ((4 * p0) + 3), .ref (q 29), .int (y17_3 + x12), .int (g 30)]) (rest := []) ⟨hx, hb, hml, hown, hts⟩ (m_stands_29 l dC dI H.size h0 kB kI kZ q g (upF F 31 d17_F31) ((4 * p0) + 3) (y17_3 + x12) (g 30) r180z hc180) (cwV 4 hts gw_X12_stands_256 rfl rfl rfl (by decide +kernel) ⟨Nat.le_of_ble_eq_true rfl, Nat.le_of_ble_eq_true rfl⟩) ⟨fun a U g mk q => by obtain ⟨q0, q1, qP, qK, qD⟩ := q; exact ⟨q0, q1, qP, va_K.moved (u := U) (U := U.calling g mk a) (Vm.Alike.refl U.vm) qK, qD⟩, va_recv hK hP (ci := 12) (q0 := 0) rfl rfl, fun U hU hW => ⟨rfl, by rw [hU], by rw [hU]; exact hP, va_K.moved hW.alike hK, hD.weaken (fun _ _ _ _ => trivial)⟩⟩ rfl rfl hl.1 rfl (lv_room (Nat.le_of_ble_eq_true rfl)) dX12_lawThrough_180 ⟨Nat.le_of_ble_eq_true rfl, Nat.le_of_ble_eq_true rfl⟩) hS (fun q _ h => hFc q h) hFc (fun r180 u t H1 locs ht hvm hw hB hz1 hk1 hS => ?_)
                replace hw : r180 = r180z := hw
                subst hw
                obtain ⟨hP1, hK1, hD1⟩ := hB
                rw [ht] at hP1
                obtain ⟨hP, hD⟩ := jn_all (w1 := (mW h0 kB kI kZ q g (upF F 31 d17_F31))) hFc hP1 hD1
                clear hFc hP1 hK1 hD1 hk1 hz1 ht hvm
                generalize H1 = H at hP hS ⊢
                have hP : va_P (dC, dI) vwCl (mW h0 kB kI kZ q g (upF F 31 d17_F31)) H := hP
                have hD : va_D A (mW h0 kB kI kZ q g (upF F 31 d17_F31)) := hD
                refine lv_if_eq (tgt := 190) hx hb dX12_lawThrough_183 (by decide) (fun c183 => ?_) (fun c183 => ?_)
                · replace hr := iteT c183 hr
                  exact Jj190 H _ ls hr hP hD hS (lv_sub hl [1, 2, 3, 4, 5, 6] rfl)
                · replace hr := iteF c183 hr
                  exact Jj186 H _ ls hr hP hD hS (lv_sub hl [1, 2, 3, 4, 5, 6] rfl)
          replace hr := jnS hr
          obtain ⟨j140, hj140, hr⟩ := hr
          have Jj140 : ∀ (H : Heap) (locs : List Loc) (ls : Array Slot), j140 () = some (c_g30, c_g36, c_F29, c_F31) → va_P (dC, dI) vwCl (mW h0 kB kI kZ q g (upF F 31 d17_F31)) H → va_D A (mW h0 kB kI kZ q g (upF F 31 d17_F31)) → va_S A s.heap H locs → lv_has ls 8 [(0, .ref h0), (1, .int p0), (2, .int y17_2), (3, .int y17_3), (4, .int x12), (5, .int y17_5)] → W p l e ({ frames := 3, cells := 0, slots := 0, locals := 85 } : Room) s m args below meth c H locs 0 0 Q (F0 m 140 ls []) := by
            intro H locs ls hr hP hD hS hl
            rw [hj140] at hr
            refine lv_iconst (v := 0) hx hb dX12_lawThrough_140 (by decide +kernel) ?_
            exact Jj141 0 H _ ls hr hP hD hS (lv_sub hl [0, 1, 2, 3, 4, 5] rfl)
          refine lv_if_eq (tgt := 140) hx hb dX12_lawThrough_90 (by decide) (fun c90 => ?_) (fun c90 => ?_)
          · replace hr := iteT c90 hr
            exact Jj140 H _ ls hr hP hD hS (lv_sub hl [1, 2, 3, 4, 5, 6] rfl)
          · replace hr := iteF c90 hr
            refine lv_aload_n hx hb dX12_lawThrough_93 rfl (lv_at hl 1 rfl) ?_
            refine va_get (D := (dC, dI)) (ci := 12) (v := .ref (q 15)) (C := RX12) (T := TX12) (N := 71) hx hb hts inX12 hown hK hP 0 rfl rfl 15 (by decide) (hts (.fieldLink RX12 33 "SpellTurnerModel" "lawSize" "[I") im_71) (fun _ h9 => h9) rfl dX12_lawThrough_94 ?_
            refine lv_iconst (v := 4) hx hb dX12_lawThrough_97 (by decide +kernel) ?_
            refine lv_iload_n hx hb dX12_lawThrough_98 rfl (lv_at hl 2 rfl) ?_
            refine lv_imul hx hb dX12_lawThrough_99 ?_
            refine lv_iconst (v := 2) hx hb dX12_lawThrough_100 (by decide +kernel) ?_
            refine lv_iadd hx hb dX12_lawThrough_101 ?_
            replace hr := iteS hr
            obtain ⟨hi102, hr⟩ := hr
            refine va_iald (f := (F 15)) hx hb hK hP 7 1 rfl rfl (inbV hi102) dX12_lawThrough_102 ?_
            refine lv_iconst (v := (-1)) hx hb dX12_lawThrough_103 (by decide +kernel) ?_
            replace hr := jnS hr
            obtain ⟨j136, hj136, hr⟩ := hr
            have Jj136 : ∀ (H : Heap) (locs : List Loc) (ls : Array Slot), j136 () = some (c_g30, c_g36, c_F29, c_F31) → va_P (dC, dI) vwCl (mW h0 kB kI kZ q g (upF F 31 d17_F31)) H → va_D A (mW h0 kB kI kZ q g (upF F 31 d17_F31)) → va_S A s.heap H locs → lv_has ls 8 [(0, .ref h0), (1, .int p0), (2, .int y17_2), (3, .int y17_3), (4, .int x12), (5, .int y17_5)] → W p l e ({ frames := 3, cells := 0, slots := 0, locals := 85 } : Room) s m args below meth c H locs 0 0 Q (F0 m 136 ls []) := by
              intro H locs ls hr hP hD hS hl
              rw [hj136] at hr
              refine lv_iconst (v := 1) hx hb dX12_lawThrough_136 (by decide +kernel) ?_
              refine lv_goto (tgt := 141) hx hb dX12_lawThrough_137 (by decide) ?_
              exact Jj141 1 H _ ls hr hP hD hS (lv_sub hl [0, 1, 2, 3, 4, 5] rfl)
            refine lv_icmp_eq (tgt := 136) hx hb dX12_lawThrough_104 (by decide) (fun c104 => ?_) (fun c104 => ?_)
            · replace hr := iteT c104 hr
              exact Jj136 H _ ls hr hP hD hS (lv_sub hl [1, 2, 3, 4, 5, 6] rfl)
            · replace hr := iteF c104 hr
              refine lv_aload_n hx hb dX12_lawThrough_107 rfl (lv_at hl 1 rfl) ?_
              refine lv_iconst (v := 4) hx hb dX12_lawThrough_108 (by decide +kernel) ?_
              refine lv_iload_n hx hb dX12_lawThrough_109 rfl (lv_at hl 2 rfl) ?_
              refine lv_imul hx hb dX12_lawThrough_110 ?_
              refine lv_iconst (v := 2) hx hb dX12_lawThrough_111 (by decide +kernel) ?_
              refine lv_iadd hx hb dX12_lawThrough_112 ?_
              refine lv_aload_n hx hb dX12_lawThrough_113 rfl (lv_at hl 1 rfl) ?_
              refine va_get (D := (dC, dI)) (ci := 12) (v := .ref (q 31)) (C := RX12) (T := TX12) (N := 71) hx hb hts inX12 hown hK hP 0 rfl rfl 31 (by decide) (hts (.fieldLink RX12 73 "SpellTurnerModel" "written" "[B") im_151) (fun _ h9 => h9) rfl dX12_lawThrough_114 ?_
              refine lv_iload_n hx hb dX12_lawThrough_117 rfl (lv_at hl 3 rfl) ?_
              refine lv_aload_n hx hb dX12_lawThrough_118 rfl (lv_at hl 1 rfl) ?_
              refine va_get (D := (dC, dI)) (ci := 12) (v := .ref (q 15)) (C := RX12) (T := TX12) (N := 71) hx hb hts inX12 hown hK hP 0 rfl rfl 15 (by decide) (hts (.fieldLink RX12 33 "SpellTurnerModel" "lawSize" "[I") im_71) (fun _ h9 => h9) rfl dX12_lawThrough_119 ?_
              refine lv_iconst (v := 4) hx hb dX12_lawThrough_122 (by decide +kernel) ?_
              refine lv_iload_n hx hb dX12_lawThrough_123 rfl (lv_at hl 2 rfl) ?_
              refine lv_imul hx hb dX12_lawThrough_124 ?_
              refine lv_iconst (v := 2) hx hb dX12_lawThrough_125 (by decide +kernel) ?_
              refine lv_iadd hx hb dX12_lawThrough_126 ?_
              replace hr := iteS hr
              obtain ⟨hi127, hr⟩ := hr
              refine va_iald (f := (F 15)) hx hb hK hP 7 1 rfl rfl (inbV hi127) dX12_lawThrough_127 ?_
              refine lv_isub hx hb dX12_lawThrough_128 ?_
              refine lv_iload_n hx hb dX12_lawThrough_129 rfl (lv_at hl 3 rfl) ?_
              replace hr := b1S hr
              obtain ⟨r130z, hc130, hr⟩ := hr
              have hFc := fr_all hD hS hA
              refine va_calli (va_runV (As := [.int ((4 * p0) + 2), .ref (q 31), .int (y17_2 - ((F 15) (Int32.toNatClampNeg ((4 * p0) + 2)))), .int y17_2]) (rest := []) ⟨hx, hb, hml, hown, hts⟩ (m_stands_31 l dC dI H.size h0 kB kI kZ q g (upF F 31 d17_F31) ((4 * p0) + 2) (y17_2 - ((F 15) (Int32.toNatClampNeg ((4 * p0) + 2)))) y17_2 r130z hc130) (cwV 4 hts gw_X12_stands_256 rfl rfl rfl (by decide +kernel) ⟨Nat.le_of_ble_eq_true rfl, Nat.le_of_ble_eq_true rfl⟩) ⟨fun a U g mk q => by obtain ⟨q0, q1, qP, qK, qD⟩ := q; exact ⟨q0, q1, qP, va_K.moved (u := U) (U := U.calling g mk a) (Vm.Alike.refl U.vm) qK, qD⟩, va_recv hK hP (ci := 12) (q0 := 0) rfl rfl, fun U hU hW => ⟨rfl, by rw [hU], by rw [hU]; exact hP, va_K.moved hW.alike hK, hD.weaken (fun _ _ _ _ => trivial)⟩⟩ rfl rfl hl.1 rfl (lv_room (Nat.le_of_ble_eq_true rfl)) dX12_lawThrough_130 ⟨Nat.le_of_ble_eq_true rfl, Nat.le_of_ble_eq_true rfl⟩) hS (fun q _ h => hFc q h) hFc (fun r130 u t H1 locs ht hvm hw hB hz1 hk1 hS => ?_)
              replace hw : r130 = r130z := hw
              subst hw
              obtain ⟨hP1, hK1, hD1⟩ := hB
              rw [ht] at hP1
              obtain ⟨hP, hD⟩ := jn_all (w1 := (mW h0 kB kI kZ q g (upF F 31 d17_F31))) hFc hP1 hD1
              clear hFc hP1 hK1 hD1 hk1 hz1 ht hvm
              generalize H1 = H at hP hS ⊢
              have hP : va_P (dC, dI) vwCl (mW h0 kB kI kZ q g (upF F 31 d17_F31)) H := hP
              have hD : va_D A (mW h0 kB kI kZ q g (upF F 31 d17_F31)) := hD
              refine lv_if_eq (tgt := 140) hx hb dX12_lawThrough_133 (by decide) (fun c133 => ?_) (fun c133 => ?_)
              · replace hr := iteT c133 hr
                exact Jj140 H _ ls hr hP hD hS (lv_sub hl [1, 2, 3, 4, 5, 6] rfl)
              · replace hr := iteF c133 hr
                exact Jj136 H _ ls hr hP hD hS (lv_sub hl [1, 2, 3, 4, 5, 6] rfl)
        replace hr := jnS hr
        obtain ⟨j85, hj85, hr⟩ := hr
        have Jj85 : ∀ (H : Heap) (locs : List Loc) (ls : Array Slot), j85 () = some (c_g30, c_g36, c_F29, c_F31) → va_P (dC, dI) vwCl (mW h0 kB kI kZ q g (upF F 31 d17_F31)) H → va_D A (mW h0 kB kI kZ q g (upF F 31 d17_F31)) → va_S A s.heap H locs → lv_has ls 8 [(0, .ref h0), (1, .int p0), (2, .int y17_2), (3, .int y17_3), (4, .int x12), (5, .int y17_5)] → W p l e ({ frames := 3, cells := 0, slots := 0, locals := 85 } : Room) s m args below meth c H locs 0 0 Q (F0 m 85 ls []) := by
          intro H locs ls hr hP hD hS hl
          rw [hj85] at hr
          refine lv_iconst (v := 0) hx hb dX12_lawThrough_85 (by decide +kernel) ?_
          exact Jj86 0 H _ ls hr hP hD hS (lv_sub hl [0, 1, 2, 3, 4, 5] rfl)
        refine lv_if_eq (tgt := 85) hx hb dX12_lawThrough_45 (by decide) (fun c45 => ?_) (fun c45 => ?_)
        · replace hr := iteT c45 hr
          exact Jj85 H _ ls hr hP hD hS (lv_sub hl [1, 2, 3, 4, 5, 6] rfl)
        · replace hr := iteF c45 hr
          refine lv_aload_n hx hb dX12_lawThrough_48 rfl (lv_at hl 1 rfl) ?_
          refine va_get (D := (dC, dI)) (ci := 12) (v := .ref (q 16)) (C := RX12) (T := TX12) (N := 71) hx hb hts inX12 hown hK hP 0 rfl rfl 16 (by decide) (hts (.fieldLink RX12 36 "SpellTurnerModel" "atStart" "[Z") im_155) (fun _ h9 => h9) rfl dX12_lawThrough_49 ?_
          refine lv_iload_n hx hb dX12_lawThrough_52 rfl (lv_at hl 2 rfl) ?_
          replace hr := iteS hr
          obtain ⟨hi53, hr⟩ := hr
          refine va_zald (f := (F 16)) hx hb hK hP 8 2 rfl rfl (inbV hi53) dX12_lawThrough_53 ?_
          replace hr := jnS hr
          obtain ⟨j61, hj61, hr⟩ := hr
          have Jj61 : ∀ (H : Heap) (locs : List Loc) (ls : Array Slot), j61 () = some (c_g30, c_g36, c_F29, c_F31) → va_P (dC, dI) vwCl (mW h0 kB kI kZ q g (upF F 31 d17_F31)) H → va_D A (mW h0 kB kI kZ q g (upF F 31 d17_F31)) → va_S A s.heap H locs → lv_has ls 8 [(0, .ref h0), (1, .int p0), (2, .int y17_2), (3, .int y17_3), (4, .int x12), (5, .int y17_5)] → W p l e ({ frames := 3, cells := 0, slots := 0, locals := 85 } : Room) s m args below meth c H locs 0 0 Q (F0 m 61 ls []) := by
            intro H locs ls hr hP hD hS hl
            rw [hj61] at hr
            refine lv_aload_n hx hb dX12_lawThrough_61 rfl (lv_at hl 0 rfl) ?_
            refine va_get (D := (dC, dI)) (ci := 12) (v := .ref (q 17)) (C := RX12) (T := TX12) (N := 71) hx hb hts inX12 hown hK hP 0 rfl rfl 17 (by decide) (hts (.fieldLink RX12 40 "SpellTurnerModel" "atEnd" "[Z") im_156) (fun _ h9 => h9) rfl dX12_lawThrough_62 ?_
            refine lv_iload_n hx hb dX12_lawThrough_65 rfl (lv_at hl 1 rfl) ?_
            replace hr := iteS hr
            obtain ⟨hi66, hr⟩ := hr
            refine va_zald (f := (F 17)) hx hb hK hP 9 2 rfl rfl (inbV hi66) dX12_lawThrough_66 ?_
            replace hr := jnS hr
            obtain ⟨j81, hj81, hr⟩ := hr
            have Jj81 : ∀ (H : Heap) (locs : List Loc) (ls : Array Slot), j81 () = some (c_g30, c_g36, c_F29, c_F31) → va_P (dC, dI) vwCl (mW h0 kB kI kZ q g (upF F 31 d17_F31)) H → va_D A (mW h0 kB kI kZ q g (upF F 31 d17_F31)) → va_S A s.heap H locs → lv_has ls 8 [(0, .ref h0), (1, .int p0), (2, .int y17_2), (3, .int y17_3), (4, .int x12), (5, .int y17_5)] → W p l e ({ frames := 3, cells := 0, slots := 0, locals := 85 } : Room) s m args below meth c H locs 0 0 Q (F0 m 81 ls []) := by
              intro H locs ls hr hP hD hS hl
              rw [hj81] at hr
              refine lv_iconst (v := 1) hx hb dX12_lawThrough_81 (by decide +kernel) ?_
              refine lv_goto (tgt := 86) hx hb dX12_lawThrough_82 (by decide) ?_
              exact Jj86 1 H _ ls hr hP hD hS (lv_sub hl [0, 1, 2, 3, 4, 5] rfl)
            refine lv_if_eq (tgt := 81) hx hb dX12_lawThrough_67 (by decide) (fun c67 => ?_) (fun c67 => ?_)
            · replace hr := iteT c67 hr
              exact Jj81 H _ ls hr hP hD hS (lv_sub hl [0, 1, 2, 3, 4, 5] rfl)
            · replace hr := iteF c67 hr
              refine lv_iload_n hx hb dX12_lawThrough_70 rfl (lv_at hl 3 rfl) ?_
              refine lv_iload hx hb dX12_lawThrough_71 (lv_at hl 4 rfl) ?_
              refine lv_iadd hx hb dX12_lawThrough_73 ?_
              refine lv_aload_n hx hb dX12_lawThrough_74 rfl (lv_at hl 0 rfl) ?_
              refine va_get (D := (dC, dI)) (ci := 12) (v := .int (g 30)) (C := RX12) (T := TX12) (N := 71) hx hb hts inX12 hown hK hP 0 rfl rfl 30 (by decide) (hts (.fieldLink RX12 253 "SpellTurnerModel" "partLetters" "I") im_147) (fun _ h9 => h9) rfl dX12_lawThrough_75 ?_
              refine lv_icmp_ne (tgt := 85) hx hb dX12_lawThrough_78 (by decide) (fun c78 => ?_) (fun c78 => ?_)
              · replace hr := iteF c78 hr
                exact Jj85 H _ ls hr hP hD hS (lv_sub hl [0, 1, 2, 3, 4, 5] rfl)
              · replace hr := iteT c78 hr
                exact Jj81 H _ ls hr hP hD hS (lv_sub hl [0, 1, 2, 3, 4, 5] rfl)
          refine lv_if_eq (tgt := 61) hx hb dX12_lawThrough_54 (by decide) (fun c54 => ?_) (fun c54 => ?_)
          · replace hr := iteT c54 hr
            exact Jj61 H _ ls hr hP hD hS (lv_sub hl [1, 2, 3, 4, 5, 6] rfl)
          · replace hr := iteF c54 hr
            refine lv_iload_n hx hb dX12_lawThrough_57 rfl (lv_at hl 3 rfl) ?_
            refine lv_if_ne (tgt := 85) hx hb dX12_lawThrough_58 (by decide) (fun c58 => ?_) (fun c58 => ?_)
            · replace hr := iteF c58 hr
              exact Jj85 H _ ls hr hP hD hS (lv_sub hl [1, 2, 3, 4, 5, 6] rfl)
            · replace hr := iteT c58 hr
              exact Jj61 H _ ls hr hP hD hS (lv_sub hl [1, 2, 3, 4, 5, 6] rfl)
  first | exact lp17 NN 0 0 0 (F 31) H _ ls hr (sP_eq (mW_cg (by repeat (first | with_reducible rfl | with_reducible refine upd_cg ?_ | refine Eq.trans ?_ (upd_id rfl))) (by repeat (first | with_reducible rfl | with_reducible refine upF_cg ?_ | refine Eq.trans ?_ (upF_id rfl)))) hP) (sD_eq (mW_cg (by repeat (first | with_reducible rfl | with_reducible refine upd_cg ?_ | refine Eq.trans ?_ (upd_id rfl))) (by repeat (first | with_reducible rfl | with_reducible refine upF_cg ?_ | refine Eq.trans ?_ (upF_id rfl)))) hD) hS (lv_sub hl [4, 5, 3, 2, 1, 0] rfl) | exact lp17 NN 0 0 0 (F 31) H _ ls hr hP hD hS (lv_sub hl [4, 5, 3, 2, 1, 0] rfl)
set_option maxHeartbeats 4000000 in
set_option maxRecDepth 100000 in
theorem m_lawThrough (l : Launch) (dC : Nat → ClassId) (dI : Nat → Nat → Nat) (sz : Nat) (h0 : Nat) (kB kI kZ : ClassId) (q : Nat → Nat) (g : Nat → Int32) (F : Nat → Nat → Int32) (p0 : Int32) (c_g30 : Int32) (c_g36 : Int32) (c_F29 : (Nat → Int32)) (c_F31 : (Nat → Int32)) (hr : f_lawThrough g F p0 = some (c_g30, c_g36, c_F29, c_F31)) : Met l yX12_lawThrough vmX12_lawThrough ({ frames := 3, cells := 0, slots := 0, locals := 85 } : Room) (va_Pc [.ref h0, .int p0] (fun U => U.heap.size = sz ∧ va_P (dC, dI) vwCl (mW h0 kB kI kZ q g F) U.heap ∧ va_K (dC, dI) vwCl (mT kB kI kZ) U ∧ va_D (fun _ => True) (mW h0 kB kI kZ q g F))) (va_Qv (fun _ : Unit => True) (fun _ t => va_P (dC, dI) vwCl (mW h0 kB kI kZ q (upd (upd g 30 c_g30) 36 c_g36) (upF (upF F 29 c_F29) 31 c_F31)) t.heap ∧ va_K (dC, dI) vwCl (mT kB kI kZ) t ∧ va_D (va_A (mW h0 kB kI kZ q g F) sz) (mW h0 kB kI kZ q (upd (upd g 30 c_g30) 36 c_g36) (upF (upF F 29 c_F29) 31 c_F31))) (va_A (mW h0 kB kI kZ q g F) sz)) 0 0 (va_A (mW h0 kB kI kZ q g F) sz) := by
  refine Met.ofW (cc := cX12_lawThrough) (maxL := 8) (ret := none) (by decide) rfl ?_
  intro p e s m args below meth c s₁ B hml hv
  obtain ⟨rfl, hsz, hP, hK, hD0⟩ := hv
  have hx := B.exec
  have hb := B.bytes
  have hrt := B.returns
  have hts := atoms_spec (ws := vmX12_lawThrough) B.pre
  have hown : s.vm.findClass RX12 = some m.cls := findClass_of_methodNamed B.named
  subst hsz
  have hD := hD0.self (sz := s.heap.size)
  generalize hAe : va_A (mW h0 kB kI kZ q g F) s.heap.size = A at hD ⊢
  have hA : ∀ q : Nat, s.heap.size ≤ q → A q := fun q h => by rw [← hAe]; exact Or.inr h
  have hS : va_S A s.heap s.heap [] := va_S.rf
  have hl := lv_entry ([.ref h0, .int p0]) (n := 8) (Nat.le_of_ble_eq_true rfl)
  rw [lg_entry_eq]
  generalize (lg_sl ([.ref h0, .int p0]) ++ List.replicate (8 - (lg_sl ([.ref h0, .int p0])).length) Slot.unset).toArray = ls at hl ⊢
  exact bm_lawThrough p0 c_g30 c_g36 c_F29 c_F31 hr hx hb hml hown hts hA hK hP hD hS hl (fun pc ls c_g30z c_g36z c_F29z c_F31z H locs he hd hP hD hS => by cases he; exact W.vret hx hb hrt (fun t ht hW => ⟨⟨(), rfl, trivial, by rw [ht]; exact hP, va_K.moved hW.alike hK, hD⟩, hS.F ht⟩) hS.2.2 hd)
set_option maxHeartbeats 4000000 in
set_option maxRecDepth 100000 in
theorem bm_makeForm {p : Program} {l : Launch} {e : Env} {s : State} {m : MethodId} {args : Array Value} {below : List Frame} {meth : Method} {c : Code} {Q : State → Prop} {A : Nat → Prop} {dC : Nat → ClassId} {dI : Nat → Nat → Nat} {h0 : Nat} {kB kI kZ : ClassId} {q : Nat → Nat} {g : Nat → Int32} {F : Nat → Nat → Int32} {H : Heap} {locs : List Loc} {ls : Array Slot} (p0 : Int32) (p1 : Int32) (c_g30 : Int32) (c_g34 : Int32) (c_g36 : Int32) (c_F29 : (Nat → Int32)) (c_F31 : (Nat → Int32)) (c_F32 : (Nat → Int32)) (c_F33 : (Nat → Int32)) (hr : f_makeForm g F p0 p1 = some (c_g30, c_g34, c_g36, c_F29, c_F31, c_F32, c_F33)) (hx : p.tables.exec = Jvm.exec) (hb : c.code = cX12_makeForm) (hml : c.maxLocals = 10) (hown : s.vm.findClass RX12 = some m.cls) (hts : ∀ w ∈ vmX12_makeForm, w.before args s = true) (hA : ∀ q : Nat, s.heap.size ≤ q → A q) (hK : va_K (dC, dI) vwCl (mT kB kI kZ) s) (hP : va_P (dC, dI) vwCl (mW h0 kB kI kZ q g F) H) (hD : va_D A (mW h0 kB kI kZ q g F)) (hS : va_S A s.heap H locs) (hl : lv_has ls 10 [(0, .ref h0), (1, .int p0), (2, .int p1)])
    (K : ∀ (pc : Nat) (ls : Array Slot) (c_g30z : Int32) (c_g34z : Int32) (c_g36z : Int32) (c_F29z : (Nat → Int32)) (c_F31z : (Nat → Int32)) (c_F32z : (Nat → Int32)) (c_F33z : (Nat → Int32)) (H : Heap) (locs : List Loc), some (c_g30z, c_g34z, c_g36z, c_F29z, c_F31z, c_F32z, c_F33z) = some (c_g30, c_g34, c_g36, c_F29, c_F31, c_F32, c_F33) → decode cX12_makeForm pc = .ok (.return_, 1) → va_P (dC, dI) vwCl (mW h0 kB kI kZ q (upd (upd (upd g 30 c_g30z) 34 c_g34z) 36 c_g36z) (upF (upF (upF (upF F 29 c_F29z) 31 c_F31z) 32 c_F32z) 33 c_F33z)) H → va_D A (mW h0 kB kI kZ q (upd (upd (upd g 30 c_g30z) 34 c_g34z) 36 c_g36z) (upF (upF (upF (upF F 29 c_F29z) 31 c_F31z) 32 c_F32z) 33 c_F33z)) → va_S A s.heap H locs → W p l e ({ frames := 4, cells := 0, slots := 0, locals := 112 } : Room) s m args below meth c H locs 0 0 Q (F0 m pc ls [])) : W p l e ({ frames := 4, cells := 0, slots := 0, locals := 112 } : Room) s m args below meth c H locs 0 0 Q (F0 m 0 ls []) := by
  unfold f_makeForm at hr
  refine lv_iload_n hx hb dX12_makeForm_0 rfl (lv_at hl 2 rfl) ?_
  refine lv_iconst (v := (-1)) hx hb dX12_makeForm_1 (by decide +kernel) ?_
  replace hr := jnS hr
  obtain ⟨j15, hj15, hr⟩ := hr
  have Jj15 : ∀ (t15_0 : Int32) (H : Heap) (locs : List Loc) (ls : Array Slot), j15 t15_0 = some (c_g30, c_g34, c_g36, c_F29, c_F31, c_F32, c_F33) → va_P (dC, dI) vwCl (mW h0 kB kI kZ q g F) H → va_D A (mW h0 kB kI kZ q g F) → va_S A s.heap H locs → lv_has ls 10 [(0, .ref h0), (1, .int p0), (2, .int p1)] → W p l e ({ frames := 4, cells := 0, slots := 0, locals := 112 } : Room) s m args below meth c H locs 0 0 Q (F0 m 15 ls [.int t15_0]) := by
    intro t15_0 H locs ls hr hP hD hS hl
    rw [hj15] at hr
    refine lv_istore_n (lv' := [(3, .int t15_0), (0, .ref h0), (1, .int p0), (2, .int p1)]) hx hb dX12_makeForm_15 rfl hl (by decide) rfl (fun ls hl => ?_)
    refine lv_iconst (v := 0) hx hb dX12_makeForm_16 (by decide +kernel) ?_
    refine lv_istore (lv' := [(4, .int 0), (3, .int t15_0), (0, .ref h0), (1, .int p0), (2, .int p1)]) hx hb dX12_makeForm_17 hl (by decide) rfl (fun ls hl => ?_)
    refine lv_iconst (v := 0) hx hb dX12_makeForm_19 (by decide +kernel) ?_
    refine lv_istore (lv' := [(5, .int 0), (4, .int 0), (3, .int t15_0), (0, .ref h0), (1, .int p0), (2, .int p1)]) hx hb dX12_makeForm_20 hl (by decide) rfl (fun ls hl => ?_)
    refine lv_iconst (v := 1) hx hb dX12_makeForm_22 (by decide +kernel) ?_
    refine lv_istore (lv' := [(6, .int 1), (5, .int 0), (4, .int 0), (3, .int t15_0), (0, .ref h0), (1, .int p0), (2, .int p1)]) hx hb dX12_makeForm_23 hl (by decide) rfl (fun ls hl => ?_)
    refine lv_iconst (v := 0) hx hb dX12_makeForm_25 (by decide +kernel) ?_
    refine lv_istore (lv' := [(7, .int 0), (6, .int 1), (5, .int 0), (4, .int 0), (3, .int t15_0), (0, .ref h0), (1, .int p0), (2, .int p1)]) hx hb dX12_makeForm_26 hl (by decide) rfl (fun ls hl => ?_)
    replace hr := jnS hr
    obtain ⟨k236, hk236, hr⟩ := hr
    have Jk236 : ∀ (x236_5 : Int32) (x236_6 : Int32) (c236_g30 : Int32) (c236_g36 : Int32) (c236_F29 : (Nat → Int32)) (c236_F31 : (Nat → Int32)) (c236_F32 : (Nat → Int32)) (H : Heap) (locs : List Loc) (ls : Array Slot), k236 x236_5 x236_6 c236_g30 c236_g36 c236_F29 c236_F31 c236_F32 = some (c_g30, c_g34, c_g36, c_F29, c_F31, c_F32, c_F33) → va_P (dC, dI) vwCl (mW h0 kB kI kZ q (upd (upd g 30 c236_g30) 36 c236_g36) (upF (upF (upF F 29 c236_F29) 31 c236_F31) 32 c236_F32)) H → va_D A (mW h0 kB kI kZ q (upd (upd g 30 c236_g30) 36 c236_g36) (upF (upF (upF F 29 c236_F29) 31 c236_F31) 32 c236_F32)) → va_S A s.heap H locs → lv_has ls 10 [(0, .ref h0), (5, .int x236_5), (6, .int x236_6)] → W p l e ({ frames := 4, cells := 0, slots := 0, locals := 112 } : Room) s m args below meth c H locs 0 0 Q (F0 m 236 ls []) := by
      intro x236_5 x236_6 c236_g30 c236_g36 c236_F29 c236_F31 c236_F32 H locs ls hr hP hD hS hl
      rw [hk236] at hr
      refine lv_iload hx hb dX12_makeForm_236 (lv_at hl 2 rfl) ?_
      replace hr := jnS hr
      obtain ⟨j253, hj253, hr⟩ := hr
      have Jj253 : ∀ (H : Heap) (locs : List Loc) (ls : Array Slot), j253 () = some (c_g30, c_g34, c_g36, c_F29, c_F31, c_F32, c_F33) → va_P (dC, dI) vwCl (mW h0 kB kI kZ q (upd (upd g 30 c236_g30) 36 c236_g36) (upF (upF (upF F 29 c236_F29) 31 c236_F31) 32 c236_F32)) H → va_D A (mW h0 kB kI kZ q (upd (upd g 30 c236_g30) 36 c236_g36) (upF (upF (upF F 29 c236_F29) 31 c236_F31) 32 c236_F32)) → va_S A s.heap H locs → lv_has ls 10 [] → W p l e ({ frames := 4, cells := 0, slots := 0, locals := 112 } : Room) s m args below meth c H locs 0 0 Q (F0 m 253 ls []) := by
        intro H locs ls hr hP hD hS hl
        rw [hj253] at hr
        first | exact K 253 ls _ _ _ _ _ _ _ H _ hr dX12_makeForm_253 (sP_eq (mW_cg (by repeat (first | with_reducible rfl | with_reducible refine upd_cg ?_ | refine Eq.trans ?_ (upd_id rfl))) (by repeat (first | with_reducible rfl | with_reducible refine upF_cg ?_ | refine Eq.trans ?_ (upF_id rfl)))) hP) (sD_eq (mW_cg (by repeat (first | with_reducible rfl | with_reducible refine upd_cg ?_ | refine Eq.trans ?_ (upd_id rfl))) (by repeat (first | with_reducible rfl | with_reducible refine upF_cg ?_ | refine Eq.trans ?_ (upF_id rfl)))) hD) hS | exact K 253 ls _ _ _ _ _ _ _ H _ hr dX12_makeForm_253 hP hD hS
      refine lv_if_eq (tgt := 253) hx hb dX12_makeForm_238 (by decide) (fun c238 => ?_) (fun c238 => ?_)
      · replace hr := iteT c238 hr
        exact Jj253 H _ ls hr hP hD hS (lv_sub hl [] rfl)
      · replace hr := iteF c238 hr
        refine lv_iload hx hb dX12_makeForm_241 (lv_at hl 1 rfl) ?_
        refine lv_if_eq (tgt := 253) hx hb dX12_makeForm_243 (by decide) (fun c243 => ?_) (fun c243 => ?_)
        · replace hr := iteT c243 hr
          exact Jj253 H _ ls hr hP hD hS (lv_sub hl [] rfl)
        · replace hr := iteF c243 hr
          refine lv_iload hx hb dX12_makeForm_246 (lv_at hl 1 rfl) ?_
          refine lv_bipush (v := 24) hx hb dX12_makeForm_248 (by decide +kernel) ?_
          refine lv_icmp_le (tgt := 254) hx hb dX12_makeForm_250 (by decide) (fun c250 => ?_) (fun c250 => ?_)
          · replace hr := iteT c250 hr
            refine lv_aload_n hx hb dX12_makeForm_254 rfl (lv_at hl 0 rfl) ?_
            refine va_get (D := (dC, dI)) (ci := 12) (v := .ref (q 33)) (C := RX12) (T := TX12) (N := 71) hx hb hts inX12 hown hK hP 0 rfl rfl 33 (by decide) (hts (.fieldLink RX12 79 "SpellTurnerModel" "madeSize" "[I") im_158) (fun _ h9 => h9) rfl dX12_makeForm_255 ?_
            refine lv_aload_n hx hb dX12_makeForm_258 rfl (lv_at hl 0 rfl) ?_
            refine va_get (D := (dC, dI)) (ci := 12) (v := .int (g 34)) (C := RX12) (T := TX12) (N := 71) hx hb hts inX12 hown hK hP 0 rfl rfl 34 (by decide) (hts (.fieldLink RX12 270 "SpellTurnerModel" "mades" "I") im_159) (fun _ h9 => h9) rfl dX12_makeForm_259 ?_
            refine lv_iload hx hb dX12_makeForm_262 (lv_at hl 1 rfl) ?_
            replace hr := iteS hr
            obtain ⟨hi264, hr⟩ := hr
            refine va_iast (f := (F 33)) hx hb hK hP hD hS 22 1 rfl rfl (inbV hi264) dX12_makeForm_264 (fun H locs hP hD hS => ?_)
            obtain ⟨w264, ew264, hP, hD⟩ : ∃ w264 : Nat → Int32, w264 = (upd (F 33) (Int32.toNatClampNeg (g 34)) x236_5) ∧ va_P (dC, dI) vwCl (mW h0 kB kI kZ q (upd (upd g 30 c236_g30) 36 c236_g36) (upF (upF (upF (upF F 29 c236_F29) 31 c236_F31) 32 c236_F32) 33 w264)) H ∧ va_D A (mW h0 kB kI kZ q (upd (upd g 30 c236_g30) 36 c236_g36) (upF (upF (upF (upF F 29 c236_F29) 31 c236_F31) 32 c236_F32) 33 w264)) := ⟨(upd (F 33) (Int32.toNatClampNeg (g 34)) x236_5), rfl, by first | exact sP_F33 hP rfl | exact sP_F33 hP upF_same | exact hP, by first | exact sD_F33 hD rfl | exact sD_F33 hD upF_same | exact hD⟩
            replace hr := vlS hr w264 ew264
            clear ew264
            refine lv_iconst (v := 0) hx hb dX12_makeForm_265 (by decide +kernel) ?_
            refine lv_istore (lv' := [(7, .int 0), (0, .ref h0), (5, .int x236_5), (6, .int x236_6)]) hx hb dX12_makeForm_266 hl (by decide) rfl (fun ls hl => ?_)
            have lp268 : ∀ (n268 : Nat) (y268_7 : Int32) (H : Heap) (locs : List Loc) (ls : Array Slot), L_makeForm_268 g x236_5 c236_g30 c236_g36 c236_F29 c236_F31 c236_F32 w264 n268 y268_7 = some (c_g30, c_g34, c_g36, c_F29, c_F31, c_F32, c_F33) → va_P (dC, dI) vwCl (mW h0 kB kI kZ q (upd (upd g 30 c236_g30) 36 c236_g36) (upF (upF (upF (upF F 29 c236_F29) 31 c236_F31) 32 c236_F32) 33 w264)) H → va_D A (mW h0 kB kI kZ q (upd (upd g 30 c236_g30) 36 c236_g36) (upF (upF (upF (upF F 29 c236_F29) 31 c236_F31) 32 c236_F32) 33 w264)) → va_S A s.heap H locs → lv_has ls 10 [(0, .ref h0), (5, .int x236_5), (7, .int y268_7)] → W p l e ({ frames := 4, cells := 0, slots := 0, locals := 112 } : Room) s m args below meth c H locs 0 0 Q (F0 m 268 ls []) := by
              intro n268
              induction n268 with
              | zero => intro y268_7 H locs ls hr; exact nomatch (show none = some (c_g30, c_g34, c_g36, c_F29, c_F31, c_F32, c_F33) from hr)
              | succ n268 ih268 =>
                intro y268_7 H locs ls hr hP hD hS hl
                replace hr : B_makeForm_268 g x236_5 c236_g30 c236_g36 c236_F29 c236_F31 c236_F32 w264 (L_makeForm_268 g x236_5 c236_g30 c236_g36 c236_F29 c236_F31 c236_F32 w264 n268) y268_7 = some (c_g30, c_g34, c_g36, c_F29, c_F31, c_F32, c_F33) := hr
                unfold B_makeForm_268 at hr
                refine lv_iload hx hb dX12_makeForm_268 (lv_at hl 2 rfl) ?_
                refine lv_aload_n hx hb dX12_makeForm_270 rfl (lv_at hl 0 rfl) ?_
                refine va_get (D := (dC, dI)) (ci := 12) (v := .int (g 34)) (C := RX12) (T := TX12) (N := 71) hx hb hts inX12 hown hK hP 0 rfl rfl 34 (by decide) (hts (.fieldLink RX12 270 "SpellTurnerModel" "mades" "I") im_159) (fun _ h9 => h9) rfl dX12_makeForm_271 ?_
                refine lv_icmp_ge (tgt := 319) hx hb dX12_makeForm_274 (by decide) (fun c274 => ?_) (fun c274 => ?_)
                · replace hr := iteT c274 hr
                  refine lv_aload_n hx hb dX12_makeForm_319 rfl (lv_at hl 0 rfl) ?_
                  refine lv_dup hx hb dX12_makeForm_320 rfl ?_
                  refine va_get (D := (dC, dI)) (ci := 12) (v := .int (g 34)) (C := RX12) (T := TX12) (N := 71) hx hb hts inX12 hown hK hP 0 rfl rfl 34 (by decide) (hts (.fieldLink RX12 270 "SpellTurnerModel" "mades" "I") im_159) (fun _ h9 => h9) rfl dX12_makeForm_321 ?_
                  refine lv_iconst (v := 1) hx hb dX12_makeForm_324 (by decide +kernel) ?_
                  refine lv_iadd hx hb dX12_makeForm_325 ?_
                  refine lv_topi (fun x326 ex326 => ?_)
                  replace hr := vlS hr x326 ex326
                  clear ex326
                  refine va_put (D := (dC, dI)) (ci := 12) (v := .int x326) (ty := .int) (C := RX12) (T := TX12) (N := 71) hx hb hts inX12 tyX12 tyX12_ok nmX12 hown hK hP hD hS 0 rfl rfl 34 (by decide) (hts (.fieldLink RX12 270 "SpellTurnerModel" "mades" "I") im_159) (fun _ h9 => h9) rfl (by decide +kernel) rfl rfl (Nat.le_of_ble_eq_true rfl) dX12_makeForm_326 (fun H locs hP hD hS => ?_)
                  have hP : va_P (dC, dI) vwCl (mW h0 kB kI kZ q (upd (upd (upd g 30 c236_g30) 34 x326) 36 c236_g36) (upF (upF (upF (upF F 29 c236_F29) 31 c236_F31) 32 c236_F32) 33 w264)) H := by first | exact sP_g34 hP (upd_in (by decide) rfl) | exact sP_g34 hP (upd_in (by decide) upd_same) | exact hP
                  have hD : va_D A (mW h0 kB kI kZ q (upd (upd (upd g 30 c236_g30) 34 x326) 36 c236_g36) (upF (upF (upF (upF F 29 c236_F29) 31 c236_F31) 32 c236_F32) 33 w264)) := by first | exact sD_g34 hD (upd_in (by decide) rfl) | exact sD_g34 hD (upd_in (by decide) upd_same) | exact hD
                  first | exact K 329 ls _ _ _ _ _ _ _ H _ hr dX12_makeForm_329 (sP_eq (mW_cg (by repeat (first | with_reducible rfl | with_reducible refine upd_cg ?_ | refine Eq.trans ?_ (upd_id rfl))) (by repeat (first | with_reducible rfl | with_reducible refine upF_cg ?_ | refine Eq.trans ?_ (upF_id rfl)))) hP) (sD_eq (mW_cg (by repeat (first | with_reducible rfl | with_reducible refine upd_cg ?_ | refine Eq.trans ?_ (upd_id rfl))) (by repeat (first | with_reducible rfl | with_reducible refine upF_cg ?_ | refine Eq.trans ?_ (upF_id rfl)))) hD) hS | exact K 329 ls _ _ _ _ _ _ _ H _ hr dX12_makeForm_329 hP hD hS
                · replace hr := iteF c274 hr
                  refine lv_aload_n hx hb dX12_makeForm_277 rfl (lv_at hl 0 rfl) ?_
                  refine va_get (D := (dC, dI)) (ci := 12) (v := .ref (q 32)) (C := RX12) (T := TX12) (N := 71) hx hb hts inX12 hown hK hP 0 rfl rfl 32 (by decide) (hts (.fieldLink RX12 76 "SpellTurnerModel" "made" "[B") im_160) (fun _ h9 => h9) rfl dX12_makeForm_278 ?_
                  refine lv_bipush (v := 24) hx hb dX12_makeForm_281 (by decide +kernel) ?_
                  refine lv_iload hx hb dX12_makeForm_283 (lv_at hl 2 rfl) ?_
                  refine lv_imul hx hb dX12_makeForm_285 ?_
                  refine lv_aload_n hx hb dX12_makeForm_286 rfl (lv_at hl 0 rfl) ?_
                  refine va_get (D := (dC, dI)) (ci := 12) (v := .ref (q 33)) (C := RX12) (T := TX12) (N := 71) hx hb hts inX12 hown hK hP 0 rfl rfl 33 (by decide) (hts (.fieldLink RX12 79 "SpellTurnerModel" "madeSize" "[I") im_158) (fun _ h9 => h9) rfl dX12_makeForm_287 ?_
                  refine lv_iload hx hb dX12_makeForm_290 (lv_at hl 2 rfl) ?_
                  replace hr := iteS hr
                  obtain ⟨hi292, hr⟩ := hr
                  refine va_iald (f := w264) hx hb hK hP 22 1 rfl rfl (inbV hi292) dX12_makeForm_292 ?_
                  refine lv_aload_n hx hb dX12_makeForm_293 rfl (lv_at hl 0 rfl) ?_
                  refine va_get (D := (dC, dI)) (ci := 12) (v := .ref (q 32)) (C := RX12) (T := TX12) (N := 71) hx hb hts inX12 hown hK hP 0 rfl rfl 32 (by decide) (hts (.fieldLink RX12 76 "SpellTurnerModel" "made" "[B") im_160) (fun _ h9 => h9) rfl dX12_makeForm_294 ?_
                  refine lv_bipush (v := 24) hx hb dX12_makeForm_297 (by decide +kernel) ?_
                  refine lv_aload_n hx hb dX12_makeForm_299 rfl (lv_at hl 0 rfl) ?_
                  refine va_get (D := (dC, dI)) (ci := 12) (v := .int (g 34)) (C := RX12) (T := TX12) (N := 71) hx hb hts inX12 hown hK hP 0 rfl rfl 34 (by decide) (hts (.fieldLink RX12 270 "SpellTurnerModel" "mades" "I") im_159) (fun _ h9 => h9) rfl dX12_makeForm_300 ?_
                  refine lv_imul hx hb dX12_makeForm_303 ?_
                  refine lv_iload hx hb dX12_makeForm_304 (lv_at hl 1 rfl) ?_
                  replace hr := b1S hr
                  obtain ⟨r306z, hc306, hr⟩ := hr
                  have hFc := fr_all hD hS hA
                  refine va_calli (va_runS (As := [.ref (q 32), .int (24 * y268_7), .int (w264 (Int32.toNatClampNeg y268_7)), .ref (q 32), .int (24 * (g 34)), .int x236_5]) (rest := []) ⟨hx, hb, hml, hown, hts⟩ (m_sameBytes_32_32 l dC dI H.size h0 kB kI kZ q (upd (upd g 30 c236_g30) 36 c236_g36) (upF (upF (upF (upF F 29 c236_F29) 31 c236_F31) 32 c236_F32) 33 w264) (24 * y268_7) (w264 (Int32.toNatClampNeg y268_7)) (24 * (g 34)) x236_5 r306z hc306) (va_cwS 6 hts gw_X12_sameBytes_273 rfl rfl rfl (by decide +kernel) ⟨Nat.le_of_ble_eq_true rfl, Nat.le_of_ble_eq_true rfl⟩) ⟨fun a U g mk q => by obtain ⟨q0, q1, qP, qK, qD⟩ := q; exact ⟨q0, q1, qP, va_K.moved (u := U) (U := U.calling g mk a) (Vm.Alike.refl U.vm) qK, qD⟩, fun U hU hW => ⟨rfl, by rw [hU], by rw [hU]; exact hP, va_K.moved hW.alike hK, hD.weaken (fun _ _ _ _ => trivial)⟩⟩ rfl rfl hl.1 rfl (lv_room (Nat.le_of_ble_eq_true rfl)) dX12_makeForm_306 ⟨Nat.le_of_ble_eq_true rfl, Nat.le_of_ble_eq_true rfl⟩) hS (fun q _ h => hFc q h) hFc (fun r306 u t H1 locs ht hvm hw hB hz1 hk1 hS => ?_)
                  replace hw : r306 = r306z := hw
                  subst hw
                  obtain ⟨hP1, hK1, hD1⟩ := hB
                  rw [ht] at hP1
                  obtain ⟨hP, hD⟩ := jn_all (w1 := (mW h0 kB kI kZ q (upd (upd g 30 c236_g30) 36 c236_g36) (upF (upF (upF (upF F 29 c236_F29) 31 c236_F31) 32 c236_F32) 33 w264))) hFc hP1 hD1
                  clear hFc hP1 hK1 hD1 hk1 hz1 ht hvm
                  generalize H1 = H at hP hS ⊢
                  have hP : va_P (dC, dI) vwCl (mW h0 kB kI kZ q (upd (upd g 30 c236_g30) 36 c236_g36) (upF (upF (upF (upF F 29 c236_F29) 31 c236_F31) 32 c236_F32) 33 w264)) H := hP
                  have hD : va_D A (mW h0 kB kI kZ q (upd (upd g 30 c236_g30) 36 c236_g36) (upF (upF (upF (upF F 29 c236_F29) 31 c236_F31) 32 c236_F32) 33 w264)) := hD
                  refine lv_if_eq (tgt := 313) hx hb dX12_makeForm_309 (by decide) (fun c309 => ?_) (fun c309 => ?_)
                  · replace hr := iteT c309 hr
                    refine lv_iinc (v := (y268_7 + 1)) (lv' := [(7, .int (y268_7 + 1)), (0, .ref h0), (5, .int x236_5)]) hx hb dX12_makeForm_313 hl (k := 2) rfl rfl (by decide) rfl (fun ls hl => ?_)
                    refine lv_goto (tgt := 268) hx hb dX12_makeForm_316 (by decide) ?_
                    exact ih268 (y268_7 + 1) H _ ls hr hP hD hS (lv_sub hl [1, 2, 0] rfl)
                  · replace hr := iteF c309 hr
                    first | exact K 312 ls _ _ _ _ _ _ _ H _ hr dX12_makeForm_312 (sP_eq (mW_cg (by repeat (first | with_reducible rfl | with_reducible refine upd_cg ?_ | refine Eq.trans ?_ (upd_id rfl))) (by repeat (first | with_reducible rfl | with_reducible refine upF_cg ?_ | refine Eq.trans ?_ (upF_id rfl)))) hP) (sD_eq (mW_cg (by repeat (first | with_reducible rfl | with_reducible refine upd_cg ?_ | refine Eq.trans ?_ (upd_id rfl))) (by repeat (first | with_reducible rfl | with_reducible refine upF_cg ?_ | refine Eq.trans ?_ (upF_id rfl)))) hD) hS | exact K 312 ls _ _ _ _ _ _ _ H _ hr dX12_makeForm_312 hP hD hS
            exact lp268 NN 0 H _ ls hr hP hD hS (lv_sub hl [1, 2, 0] rfl)
          · replace hr := iteF c250 hr
            exact Jj253 H _ ls hr hP hD hS (lv_sub hl [] rfl)
    have lp28 : ∀ (n28 : Nat) (y28_4 : Int32) (y28_5 : Int32) (y28_6 : Int32) (y28_7 : Int32) (d28_g30 : Int32) (d28_g36 : Int32) (d28_F29 : (Nat → Int32)) (d28_F31 : (Nat → Int32)) (d28_F32 : (Nat → Int32)) (H : Heap) (locs : List Loc) (ls : Array Slot), L_makeForm_28 g F p0 p1 t15_0 k236 n28 y28_4 y28_5 y28_6 y28_7 d28_g30 d28_g36 d28_F29 d28_F31 d28_F32 = some (c_g30, c_g34, c_g36, c_F29, c_F31, c_F32, c_F33) → va_P (dC, dI) vwCl (mW h0 kB kI kZ q (upd (upd g 30 d28_g30) 36 d28_g36) (upF (upF (upF F 29 d28_F29) 31 d28_F31) 32 d28_F32)) H → va_D A (mW h0 kB kI kZ q (upd (upd g 30 d28_g30) 36 d28_g36) (upF (upF (upF F 29 d28_F29) 31 d28_F31) 32 d28_F32)) → va_S A s.heap H locs → lv_has ls 10 [(0, .ref h0), (1, .int p0), (2, .int p1), (3, .int t15_0), (4, .int y28_4), (5, .int y28_5), (6, .int y28_6), (7, .int y28_7)] → W p l e ({ frames := 4, cells := 0, slots := 0, locals := 112 } : Room) s m args below meth c H locs 0 0 Q (F0 m 28 ls []) := by
      intro n28
      induction n28 with
      | zero => intro y28_4 y28_5 y28_6 y28_7 d28_g30 d28_g36 d28_F29 d28_F31 d28_F32 H locs ls hr; exact nomatch (show none = some (c_g30, c_g34, c_g36, c_F29, c_F31, c_F32, c_F33) from hr)
      | succ n28 ih28 =>
        intro y28_4 y28_5 y28_6 y28_7 d28_g30 d28_g36 d28_F29 d28_F31 d28_F32 H locs ls hr hP hD hS hl
        replace hr : B_makeForm_28 g F p0 p1 t15_0 k236 (L_makeForm_28 g F p0 p1 t15_0 k236 n28) y28_4 y28_5 y28_6 y28_7 d28_g30 d28_g36 d28_F29 d28_F31 d28_F32 = some (c_g30, c_g34, c_g36, c_F29, c_F31, c_F32, c_F33) := hr
        unfold B_makeForm_28 at hr
        refine lv_iload hx hb dX12_makeForm_28 (lv_at hl 7 rfl) ?_
        refine lv_iload_n hx hb dX12_makeForm_30 rfl (lv_at hl 3 rfl) ?_
        refine lv_icmp_ge (tgt := 236) hx hb dX12_makeForm_31 (by decide) (fun c31 => ?_) (fun c31 => ?_)
        · replace hr := iteT c31 hr
          exact Jk236 y28_5 y28_6 d28_g30 d28_g36 d28_F29 d28_F31 d28_F32 H _ ls hr hP hD hS (lv_sub hl [0, 5, 6] rfl)
        · replace hr := iteF c31 hr
          refine lv_iload hx hb dX12_makeForm_34 (lv_at hl 6 rfl) ?_
          refine lv_if_eq (tgt := 236) hx hb dX12_makeForm_36 (by decide) (fun c36 => ?_) (fun c36 => ?_)
          · replace hr := iteT c36 hr
            exact Jk236 y28_5 y28_6 d28_g30 d28_g36 d28_F29 d28_F31 d28_F32 H _ ls hr hP hD hS (lv_sub hl [0, 5, 6] rfl)
          · replace hr := iteF c36 hr
            refine lv_iload_n hx hb dX12_makeForm_39 rfl (lv_at hl 2 rfl) ?_
            refine lv_iconst (v := (-1)) hx hb dX12_makeForm_40 (by decide +kernel) ?_
            replace hr := jnS hr
            obtain ⟨j63, hj63, hr⟩ := hr
            have Jj63 : ∀ (t63_0 : Int32) (H : Heap) (locs : List Loc) (ls : Array Slot), j63 t63_0 = some (c_g30, c_g34, c_g36, c_F29, c_F31, c_F32, c_F33) → va_P (dC, dI) vwCl (mW h0 kB kI kZ q (upd (upd g 30 d28_g30) 36 d28_g36) (upF (upF (upF F 29 d28_F29) 31 d28_F31) 32 d28_F32)) H → va_D A (mW h0 kB kI kZ q (upd (upd g 30 d28_g30) 36 d28_g36) (upF (upF (upF F 29 d28_F29) 31 d28_F31) 32 d28_F32)) → va_S A s.heap H locs → lv_has ls 10 [(0, .ref h0), (1, .int p0), (2, .int p1), (3, .int t15_0), (4, .int y28_4), (5, .int y28_5), (6, .int y28_6), (7, .int y28_7)] → W p l e ({ frames := 4, cells := 0, slots := 0, locals := 112 } : Room) s m args below meth c H locs 0 0 Q (F0 m 63 ls [.int t63_0]) := by
              intro t63_0 H locs ls hr hP hD hS hl
              rw [hj63] at hr
              refine lv_istore (lv' := [(8, .int t63_0), (0, .ref h0), (1, .int p0), (2, .int p1), (3, .int t15_0), (4, .int y28_4), (5, .int y28_5), (6, .int y28_6), (7, .int y28_7)]) hx hb dX12_makeForm_63 hl (by decide) rfl (fun ls hl => ?_)
              refine lv_iconst (v := 0) hx hb dX12_makeForm_65 (by decide +kernel) ?_
              refine lv_istore (lv' := [(9, .int 0), (8, .int t63_0), (0, .ref h0), (1, .int p0), (2, .int p1), (3, .int t15_0), (4, .int y28_4), (5, .int y28_5), (6, .int y28_6), (7, .int y28_7)]) hx hb dX12_makeForm_66 hl (by decide) rfl (fun ls hl => ?_)
              replace hr := jnS hr
              obtain ⟨k98, hk98, hr⟩ := hr
              have Jk98 : ∀ (c98_F29 : (Nat → Int32)) (H : Heap) (locs : List Loc) (ls : Array Slot), k98 c98_F29 = some (c_g30, c_g34, c_g36, c_F29, c_F31, c_F32, c_F33) → va_P (dC, dI) vwCl (mW h0 kB kI kZ q (upd (upd g 30 d28_g30) 36 d28_g36) (upF (upF (upF F 29 c98_F29) 31 d28_F31) 32 d28_F32)) H → va_D A (mW h0 kB kI kZ q (upd (upd g 30 d28_g30) 36 d28_g36) (upF (upF (upF F 29 c98_F29) 31 d28_F31) 32 d28_F32)) → va_S A s.heap H locs → lv_has ls 10 [(0, .ref h0), (1, .int p0), (2, .int p1), (3, .int t15_0), (4, .int y28_4), (5, .int y28_5), (6, .int y28_6), (7, .int y28_7), (8, .int t63_0)] → W p l e ({ frames := 4, cells := 0, slots := 0, locals := 112 } : Room) s m args below meth c H locs 0 0 Q (F0 m 98 ls []) := by
                intro c98_F29 H locs ls hr hP hD hS hl
                rw [hk98] at hr
                refine lv_aload_n hx hb dX12_makeForm_98 rfl (lv_at hl 0 rfl) ?_
                refine lv_iload hx hb dX12_makeForm_99 (lv_at hl 8 rfl) ?_
                refine va_put (D := (dC, dI)) (ci := 12) (v := .int t63_0) (ty := .int) (C := RX12) (T := TX12) (N := 71) hx hb hts inX12 tyX12 tyX12_ok nmX12 hown hK hP hD hS 0 rfl rfl 30 (by decide) (hts (.fieldLink RX12 253 "SpellTurnerModel" "partLetters" "I") im_147) (fun _ h9 => h9) rfl (by decide +kernel) rfl rfl (Nat.le_of_ble_eq_true rfl) dX12_makeForm_101 (fun H locs hP hD hS => ?_)
                have hP : va_P (dC, dI) vwCl (mW h0 kB kI kZ q (upd (upd g 30 t63_0) 36 d28_g36) (upF (upF (upF F 29 c98_F29) 31 d28_F31) 32 d28_F32)) H := by first | exact sP_g30 hP (upd_in (by decide) upd_same) | exact sP_g30 hP (upd_in (by decide) rfl) | exact hP
                have hD : va_D A (mW h0 kB kI kZ q (upd (upd g 30 t63_0) 36 d28_g36) (upF (upF (upF F 29 c98_F29) 31 d28_F31) 32 d28_F32)) := by first | exact sD_g30 hD (upd_in (by decide) upd_same) | exact sD_g30 hD (upd_in (by decide) rfl) | exact hD
                refine lv_iload hx hb dX12_makeForm_104 (lv_at hl 4 rfl) ?_
                refine lv_iload hx hb dX12_makeForm_106 (lv_at hl 8 rfl) ?_
                refine lv_iadd hx hb dX12_makeForm_108 ?_
                refine lv_topi (fun x109 ex109 => ?_)
                replace hr := vlS hr x109 ex109
                clear ex109
                refine lv_istore (lv' := [(4, .int x109), (0, .ref h0), (1, .int p0), (2, .int p1), (3, .int t15_0), (5, .int y28_5), (6, .int y28_6), (7, .int y28_7), (8, .int t63_0)]) hx hb dX12_makeForm_109 hl (by decide) rfl (fun ls hl => ?_)
                refine lv_bipush (v := 40) hx hb dX12_makeForm_111 (by decide +kernel) ?_
                refine lv_iload_n hx hb dX12_makeForm_113 rfl (lv_at hl 2 rfl) ?_
                refine lv_imul hx hb dX12_makeForm_114 ?_
                refine lv_topi (fun x115 ex115 => ?_)
                replace hr := vlS hr x115 ex115
                clear ex115
                refine lv_istore (lv' := [(9, .int x115), (4, .int x109), (0, .ref h0), (1, .int p0), (2, .int p1), (3, .int t15_0), (5, .int y28_5), (6, .int y28_6), (7, .int y28_7), (8, .int t63_0)]) hx hb dX12_makeForm_115 hl (by decide) rfl (fun ls hl => ?_)
                replace hr := jnS hr
                obtain ⟨k166, hk166, hr⟩ := hr
                have Jk166 : ∀ (x166_6 : Int32) (c166_g30 : Int32) (c166_g36 : Int32) (c166_F29 : (Nat → Int32)) (c166_F31 : (Nat → Int32)) (H : Heap) (locs : List Loc) (ls : Array Slot), k166 x166_6 c166_g30 c166_g36 c166_F29 c166_F31 = some (c_g30, c_g34, c_g36, c_F29, c_F31, c_F32, c_F33) → va_P (dC, dI) vwCl (mW h0 kB kI kZ q (upd (upd g 30 c166_g30) 36 c166_g36) (upF (upF (upF F 29 c166_F29) 31 c166_F31) 32 d28_F32)) H → va_D A (mW h0 kB kI kZ q (upd (upd g 30 c166_g30) 36 c166_g36) (upF (upF (upF F 29 c166_F29) 31 c166_F31) 32 d28_F32)) → va_S A s.heap H locs → lv_has ls 10 [(0, .ref h0), (1, .int p0), (2, .int p1), (3, .int t15_0), (4, .int x109), (5, .int y28_5), (6, .int x166_6), (7, .int y28_7)] → W p l e ({ frames := 4, cells := 0, slots := 0, locals := 112 } : Room) s m args below meth c H locs 0 0 Q (F0 m 166 ls []) := by
                  intro x166_6 c166_g30 c166_g36 c166_F29 c166_F31 H locs ls hr hP hD hS hl
                  rw [hk166] at hr
                  refine lv_iconst (v := 0) hx hb dX12_makeForm_166 (by decide +kernel) ?_
                  refine lv_istore (lv' := [(9, .int 0), (0, .ref h0), (1, .int p0), (2, .int p1), (3, .int t15_0), (4, .int x109), (5, .int y28_5), (6, .int x166_6), (7, .int y28_7)]) hx hb dX12_makeForm_167 hl (by decide) rfl (fun ls hl => ?_)
                  replace hr := jnS hr
                  obtain ⟨k221, hk221, hr⟩ := hr
                  have Jk221 : ∀ (c221_F32 : (Nat → Int32)) (H : Heap) (locs : List Loc) (ls : Array Slot), k221 c221_F32 = some (c_g30, c_g34, c_g36, c_F29, c_F31, c_F32, c_F33) → va_P (dC, dI) vwCl (mW h0 kB kI kZ q (upd (upd g 30 c166_g30) 36 c166_g36) (upF (upF (upF F 29 c166_F29) 31 c166_F31) 32 c221_F32)) H → va_D A (mW h0 kB kI kZ q (upd (upd g 30 c166_g30) 36 c166_g36) (upF (upF (upF F 29 c166_F29) 31 c166_F31) 32 c221_F32)) → va_S A s.heap H locs → lv_has ls 10 [(0, .ref h0), (1, .int p0), (2, .int p1), (3, .int t15_0), (4, .int x109), (5, .int y28_5), (6, .int x166_6), (7, .int y28_7)] → W p l e ({ frames := 4, cells := 0, slots := 0, locals := 112 } : Room) s m args below meth c H locs 0 0 Q (F0 m 221 ls []) := by
                    intro c221_F32 H locs ls hr hP hD hS hl
                    rw [hk221] at hr
                    refine lv_iload hx hb dX12_makeForm_221 (lv_at hl 5 rfl) ?_
                    refine lv_aload_n hx hb dX12_makeForm_223 rfl (lv_at hl 0 rfl) ?_
                    refine va_get (D := (dC, dI)) (ci := 12) (v := .int c166_g30) (C := RX12) (T := TX12) (N := 71) hx hb hts inX12 hown hK hP 0 rfl rfl 30 (by decide) (hts (.fieldLink RX12 253 "SpellTurnerModel" "partLetters" "I") im_147) (fun _ h9 => h9) rfl dX12_makeForm_224 ?_
                    refine lv_iadd hx hb dX12_makeForm_227 ?_
                    refine lv_topi (fun x228 ex228 => ?_)
                    replace hr := vlS hr x228 ex228
                    clear ex228
                    refine lv_istore (lv' := [(5, .int x228), (0, .ref h0), (1, .int p0), (2, .int p1), (3, .int t15_0), (4, .int x109), (6, .int x166_6), (7, .int y28_7)]) hx hb dX12_makeForm_228 hl (by decide) rfl (fun ls hl => ?_)
                    refine lv_iinc (v := (y28_7 + 1)) (lv' := [(7, .int (y28_7 + 1)), (5, .int x228), (0, .ref h0), (1, .int p0), (2, .int p1), (3, .int t15_0), (4, .int x109), (6, .int x166_6)]) hx hb dX12_makeForm_230 hl (k := 7) rfl rfl (by decide) rfl (fun ls hl => ?_)
                    refine lv_goto (tgt := 28) hx hb dX12_makeForm_233 (by decide) ?_
                    exact ih28 x109 x228 x166_6 (y28_7 + 1) c166_g30 c166_g36 c166_F29 c166_F31 c221_F32 H _ ls hr hP hD hS (lv_sub hl [2, 3, 4, 5, 6, 1, 7, 0] rfl)
                  have lp169 : ∀ (n169 : Nat) (y169_9 : Int32) (d169_F32 : (Nat → Int32)) (H : Heap) (locs : List Loc) (ls : Array Slot), L_makeForm_169 g y28_5 c166_g30 c166_F29 k221 n169 y169_9 d169_F32 = some (c_g30, c_g34, c_g36, c_F29, c_F31, c_F32, c_F33) → va_P (dC, dI) vwCl (mW h0 kB kI kZ q (upd (upd g 30 c166_g30) 36 c166_g36) (upF (upF (upF F 29 c166_F29) 31 c166_F31) 32 d169_F32)) H → va_D A (mW h0 kB kI kZ q (upd (upd g 30 c166_g30) 36 c166_g36) (upF (upF (upF F 29 c166_F29) 31 c166_F31) 32 d169_F32)) → va_S A s.heap H locs → lv_has ls 10 [(0, .ref h0), (1, .int p0), (2, .int p1), (3, .int t15_0), (4, .int x109), (5, .int y28_5), (6, .int x166_6), (7, .int y28_7), (9, .int y169_9)] → W p l e ({ frames := 4, cells := 0, slots := 0, locals := 112 } : Room) s m args below meth c H locs 0 0 Q (F0 m 169 ls []) := by
                    intro n169
                    induction n169 with
                    | zero => intro y169_9 d169_F32 H locs ls hr; exact nomatch (show none = some (c_g30, c_g34, c_g36, c_F29, c_F31, c_F32, c_F33) from hr)
                    | succ n169 ih169 =>
                      intro y169_9 d169_F32 H locs ls hr hP hD hS hl
                      replace hr : B_makeForm_169 g y28_5 c166_g30 c166_F29 k221 (L_makeForm_169 g y28_5 c166_g30 c166_F29 k221 n169) y169_9 d169_F32 = some (c_g30, c_g34, c_g36, c_F29, c_F31, c_F32, c_F33) := hr
                      unfold B_makeForm_169 at hr
                      refine lv_iload hx hb dX12_makeForm_169 (lv_at hl 8 rfl) ?_
                      refine lv_aload_n hx hb dX12_makeForm_171 rfl (lv_at hl 0 rfl) ?_
                      refine va_get (D := (dC, dI)) (ci := 12) (v := .int c166_g30) (C := RX12) (T := TX12) (N := 71) hx hb hts inX12 hown hK hP 0 rfl rfl 30 (by decide) (hts (.fieldLink RX12 253 "SpellTurnerModel" "partLetters" "I") im_147) (fun _ h9 => h9) rfl dX12_makeForm_172 ?_
                      refine lv_icmp_ge (tgt := 221) hx hb dX12_makeForm_175 (by decide) (fun c175 => ?_) (fun c175 => ?_)
                      · replace hr := iteT c175 hr
                        exact Jk221 d169_F32 H _ ls hr hP hD hS (lv_sub hl [0, 1, 2, 3, 4, 5, 6, 7] rfl)
                      · replace hr := iteF c175 hr
                        refine lv_iload hx hb dX12_makeForm_178 (lv_at hl 5 rfl) ?_
                        refine lv_aload_n hx hb dX12_makeForm_180 rfl (lv_at hl 0 rfl) ?_
                        refine va_get (D := (dC, dI)) (ci := 12) (v := .int c166_g30) (C := RX12) (T := TX12) (N := 71) hx hb hts inX12 hown hK hP 0 rfl rfl 30 (by decide) (hts (.fieldLink RX12 253 "SpellTurnerModel" "partLetters" "I") im_147) (fun _ h9 => h9) rfl dX12_makeForm_181 ?_
                        refine lv_iadd hx hb dX12_makeForm_184 ?_
                        refine lv_bipush (v := 24) hx hb dX12_makeForm_185 (by decide +kernel) ?_
                        refine lv_icmp_gt (tgt := 221) hx hb dX12_makeForm_187 (by decide) (fun c187 => ?_) (fun c187 => ?_)
                        · replace hr := iteT c187 hr
                          exact Jk221 d169_F32 H _ ls hr hP hD hS (lv_sub hl [0, 1, 2, 3, 4, 5, 6, 7] rfl)
                        · replace hr := iteF c187 hr
                          refine lv_aload_n hx hb dX12_makeForm_190 rfl (lv_at hl 0 rfl) ?_
                          refine va_get (D := (dC, dI)) (ci := 12) (v := .ref (q 32)) (C := RX12) (T := TX12) (N := 71) hx hb hts inX12 hown hK hP 0 rfl rfl 32 (by decide) (hts (.fieldLink RX12 76 "SpellTurnerModel" "made" "[B") im_160) (fun _ h9 => h9) rfl dX12_makeForm_191 ?_
                          refine lv_bipush (v := 24) hx hb dX12_makeForm_194 (by decide +kernel) ?_
                          refine lv_aload_n hx hb dX12_makeForm_196 rfl (lv_at hl 0 rfl) ?_
                          refine va_get (D := (dC, dI)) (ci := 12) (v := .int (g 34)) (C := RX12) (T := TX12) (N := 71) hx hb hts inX12 hown hK hP 0 rfl rfl 34 (by decide) (hts (.fieldLink RX12 270 "SpellTurnerModel" "mades" "I") im_159) (fun _ h9 => h9) rfl dX12_makeForm_197 ?_
                          refine lv_imul hx hb dX12_makeForm_200 ?_
                          refine lv_iload hx hb dX12_makeForm_201 (lv_at hl 5 rfl) ?_
                          refine lv_iadd hx hb dX12_makeForm_203 ?_
                          refine lv_iload hx hb dX12_makeForm_204 (lv_at hl 8 rfl) ?_
                          refine lv_iadd hx hb dX12_makeForm_206 ?_
                          refine lv_aload_n hx hb dX12_makeForm_207 rfl (lv_at hl 0 rfl) ?_
                          refine va_get (D := (dC, dI)) (ci := 12) (v := .ref (q 29)) (C := RX12) (T := TX12) (N := 71) hx hb hts inX12 hown hK hP 0 rfl rfl 29 (by decide) (hts (.fieldLink RX12 70 "SpellTurnerModel" "part" "[B") im_150) (fun _ h9 => h9) rfl dX12_makeForm_208 ?_
                          refine lv_iload hx hb dX12_makeForm_211 (lv_at hl 8 rfl) ?_
                          replace hr := iteS hr
                          obtain ⟨hi213, hr⟩ := hr
                          refine va_bald (f := c166_F29) hx hb hK hP 19 0 rfl rfl (inbV hi213) dX12_makeForm_213 ?_
                          replace hr := iteS hr
                          obtain ⟨hi214, hr⟩ := hr
                          refine va_bast (f := d169_F32) hx hb hK hP hD hS 21 0 rfl rfl (inbV hi214) dX12_makeForm_214 (fun H locs hP hD hS => ?_)
                          obtain ⟨w214, ew214, hP, hD⟩ : ∃ w214 : Nat → Int32, w214 = (upd d169_F32 (Int32.toNatClampNeg (((24 * (g 34)) + y28_5) + y169_9)) (vp_nar .byte (c166_F29 (Int32.toNatClampNeg y169_9)))) ∧ va_P (dC, dI) vwCl (mW h0 kB kI kZ q (upd (upd g 30 c166_g30) 36 c166_g36) (upF (upF (upF F 29 c166_F29) 31 c166_F31) 32 w214)) H ∧ va_D A (mW h0 kB kI kZ q (upd (upd g 30 c166_g30) 36 c166_g36) (upF (upF (upF F 29 c166_F29) 31 c166_F31) 32 w214)) := ⟨(upd d169_F32 (Int32.toNatClampNeg (((24 * (g 34)) + y28_5) + y169_9)) (vp_nar .byte (c166_F29 (Int32.toNatClampNeg y169_9)))), rfl, by first | exact sP_F32 hP upF_same | exact sP_F32 hP rfl | exact hP, by first | exact sD_F32 hD upF_same | exact sD_F32 hD rfl | exact hD⟩
                          replace hr := vlS hr w214 ew214
                          clear ew214
                          refine lv_iinc (v := (y169_9 + 1)) (lv' := [(9, .int (y169_9 + 1)), (0, .ref h0), (1, .int p0), (2, .int p1), (3, .int t15_0), (4, .int x109), (5, .int y28_5), (6, .int x166_6), (7, .int y28_7)]) hx hb dX12_makeForm_215 hl (k := 8) rfl rfl (by decide) rfl (fun ls hl => ?_)
                          refine lv_goto (tgt := 169) hx hb dX12_makeForm_218 (by decide) ?_
                          exact ih169 (y169_9 + 1) w214 H _ ls hr hP hD hS (lv_sub hl [1, 2, 3, 4, 5, 6, 7, 8, 0] rfl)
                  exact lp169 NN 0 d28_F32 H _ ls hr hP hD hS (lv_sub hl [1, 2, 3, 4, 5, 6, 7, 8, 0] rfl)
                have lp117 : ∀ (n117 : Nat) (y117_6 : Int32) (y117_9 : Int32) (d117_g30 : Int32) (d117_g36 : Int32) (d117_F29 : (Nat → Int32)) (d117_F31 : (Nat → Int32)) (H : Heap) (locs : List Loc) (ls : Array Slot), L_makeForm_117 g F p0 d28_F32 k166 n117 y117_6 y117_9 d117_g30 d117_g36 d117_F29 d117_F31 = some (c_g30, c_g34, c_g36, c_F29, c_F31, c_F32, c_F33) → va_P (dC, dI) vwCl (mW h0 kB kI kZ q (upd (upd g 30 d117_g30) 36 d117_g36) (upF (upF (upF F 29 d117_F29) 31 d117_F31) 32 d28_F32)) H → va_D A (mW h0 kB kI kZ q (upd (upd g 30 d117_g30) 36 d117_g36) (upF (upF (upF F 29 d117_F29) 31 d117_F31) 32 d28_F32)) → va_S A s.heap H locs → lv_has ls 10 [(0, .ref h0), (1, .int p0), (2, .int p1), (3, .int t15_0), (4, .int x109), (5, .int y28_5), (6, .int y117_6), (7, .int y28_7), (9, .int y117_9)] → W p l e ({ frames := 4, cells := 0, slots := 0, locals := 112 } : Room) s m args below meth c H locs 0 0 Q (F0 m 117 ls []) := by
                  intro n117
                  induction n117 with
                  | zero => intro y117_6 y117_9 d117_g30 d117_g36 d117_F29 d117_F31 H locs ls hr; exact nomatch (show none = some (c_g30, c_g34, c_g36, c_F29, c_F31, c_F32, c_F33) from hr)
                  | succ n117 ih117 =>
                    intro y117_6 y117_9 d117_g30 d117_g36 d117_F29 d117_F31 H locs ls hr hP hD hS hl
                    replace hr : B_makeForm_117 g F p0 d28_F32 k166 (L_makeForm_117 g F p0 d28_F32 k166 n117) y117_6 y117_9 d117_g30 d117_g36 d117_F29 d117_F31 = some (c_g30, c_g34, c_g36, c_F29, c_F31, c_F32, c_F33) := hr
                    unfold B_makeForm_117 at hr
                    refine lv_iload hx hb dX12_makeForm_117 (lv_at hl 8 rfl) ?_
                    refine lv_bipush (v := 40) hx hb dX12_makeForm_119 (by decide +kernel) ?_
                    refine lv_iload_n hx hb dX12_makeForm_121 rfl (lv_at hl 1 rfl) ?_
                    refine lv_imul hx hb dX12_makeForm_122 ?_
                    refine lv_aload_n hx hb dX12_makeForm_123 rfl (lv_at hl 0 rfl) ?_
                    refine va_get (D := (dC, dI)) (ci := 12) (v := .ref (q 11)) (C := RX12) (T := TX12) (N := 71) hx hb hts inX12 hown hK hP 0 rfl rfl 11 (by decide) (hts (.fieldLink RX12 21 "SpellTurnerModel" "laws" "[I") im_61) (fun _ h9 => h9) rfl dX12_makeForm_124 ?_
                    refine lv_iload_n hx hb dX12_makeForm_127 rfl (lv_at hl 1 rfl) ?_
                    replace hr := iteS hr
                    obtain ⟨hi128, hr⟩ := hr
                    refine va_iald (f := (F 11)) hx hb hK hP 3 1 rfl rfl (inbV hi128) dX12_makeForm_128 ?_
                    refine lv_iadd hx hb dX12_makeForm_129 ?_
                    refine lv_icmp_ge (tgt := 166) hx hb dX12_makeForm_130 (by decide) (fun c130 => ?_) (fun c130 => ?_)
                    · replace hr := iteT c130 hr
                      exact Jk166 y117_6 d117_g30 d117_g36 d117_F29 d117_F31 H _ ls hr hP hD hS (lv_sub hl [0, 1, 2, 3, 4, 5, 6, 7] rfl)
                    · replace hr := iteF c130 hr
                      refine lv_iload hx hb dX12_makeForm_133 (lv_at hl 6 rfl) ?_
                      refine lv_if_eq (tgt := 166) hx hb dX12_makeForm_135 (by decide) (fun c135 => ?_) (fun c135 => ?_)
                      · replace hr := iteT c135 hr
                        exact Jk166 y117_6 d117_g30 d117_g36 d117_F29 d117_F31 H _ ls hr hP hD hS (lv_sub hl [0, 1, 2, 3, 4, 5, 6, 7] rfl)
                      · replace hr := iteF c135 hr
                        refine lv_aload_n hx hb dX12_makeForm_138 rfl (lv_at hl 0 rfl) ?_
                        refine lv_iload hx hb dX12_makeForm_139 (lv_at hl 8 rfl) ?_
                        replace hr := b4S hr
                        obtain ⟨c141_g30, c141_g36, c141_F29, c141_F31, hc141, hr⟩ := hr
                        have hFc := fr_all hD hS hA
                        refine va_callv (va_runV (As := [.int y117_9]) (rest := []) ⟨hx, hb, hml, hown, hts⟩ (m_lawThrough l dC dI H.size h0 kB kI kZ q (upd (upd g 30 d117_g30) 36 d117_g36) (upF (upF (upF F 29 d117_F29) 31 d117_F31) 32 d28_F32) y117_9 c141_g30 c141_g36 c141_F29 c141_F31 hc141) (cwV 1 hts gw_X12_lawThrough_266 rfl rfl rfl (by decide +kernel) ⟨Nat.le_of_ble_eq_true rfl, Nat.le_of_ble_eq_true rfl⟩) ⟨fun a U g mk q => by obtain ⟨q0, q1, qP, qK, qD⟩ := q; exact ⟨q0, q1, qP, va_K.moved (u := U) (U := U.calling g mk a) (Vm.Alike.refl U.vm) qK, qD⟩, va_recv hK hP (ci := 12) (q0 := 0) rfl rfl, fun U hU hW => ⟨rfl, by rw [hU], by rw [hU]; exact hP, va_K.moved hW.alike hK, hD.weaken (fun _ _ _ _ => trivial)⟩⟩ rfl rfl hl.1 rfl (lv_room (Nat.le_of_ble_eq_true rfl)) dX12_makeForm_141 ⟨Nat.le_of_ble_eq_true rfl, Nat.le_of_ble_eq_true rfl⟩) hS (fun q _ h => hFc q h) hFc (fun u t H1 locs ht hvm hw hB hz1 hk1 hS => ?_)
                        obtain ⟨hP1, hK1, hD1⟩ := hB
                        rw [ht] at hP1
                        obtain ⟨hP, hD⟩ := jn_all (w1 := (mW h0 kB kI kZ q (upd (upd g 30 c141_g30) 36 c141_g36) (upF (upF (upF F 29 c141_F29) 31 c141_F31) 32 d28_F32))) hFc hP1 hD1
                        clear hFc hP1 hK1 hD1 hk1 hz1 ht hvm
                        generalize H1 = H at hP hS ⊢
                        have hP : va_P (dC, dI) vwCl (mW h0 kB kI kZ q (upd (upd g 30 c141_g30) 36 c141_g36) (upF (upF (upF F 29 c141_F29) 31 c141_F31) 32 d28_F32)) H := hP
                        have hD : va_D A (mW h0 kB kI kZ q (upd (upd g 30 c141_g30) 36 c141_g36) (upF (upF (upF F 29 c141_F29) 31 c141_F31) 32 d28_F32)) := hD
                        refine lv_aload_n hx hb dX12_makeForm_144 rfl (lv_at hl 0 rfl) ?_
                        refine va_get (D := (dC, dI)) (ci := 12) (v := .int c141_g30) (C := RX12) (T := TX12) (N := 71) hx hb hts inX12 hown hK hP 0 rfl rfl 30 (by decide) (hts (.fieldLink RX12 253 "SpellTurnerModel" "partLetters" "I") im_147) (fun _ h9 => h9) rfl dX12_makeForm_145 ?_
                        refine lv_bipush (v := 24) hx hb dX12_makeForm_148 (by decide +kernel) ?_
                        replace hr := jnS hr
                        obtain ⟨j158, hj158, hr⟩ := hr
                        have Jj158 : ∀ (t158_0 : Int32) (H : Heap) (locs : List Loc) (ls : Array Slot), j158 t158_0 = some (c_g30, c_g34, c_g36, c_F29, c_F31, c_F32, c_F33) → va_P (dC, dI) vwCl (mW h0 kB kI kZ q (upd (upd g 30 c141_g30) 36 c141_g36) (upF (upF (upF F 29 c141_F29) 31 c141_F31) 32 d28_F32)) H → va_D A (mW h0 kB kI kZ q (upd (upd g 30 c141_g30) 36 c141_g36) (upF (upF (upF F 29 c141_F29) 31 c141_F31) 32 d28_F32)) → va_S A s.heap H locs → lv_has ls 10 [(0, .ref h0), (1, .int p0), (2, .int p1), (3, .int t15_0), (4, .int x109), (5, .int y28_5), (7, .int y28_7), (9, .int y117_9)] → W p l e ({ frames := 4, cells := 0, slots := 0, locals := 112 } : Room) s m args below meth c H locs 0 0 Q (F0 m 158 ls [.int t158_0]) := by
                          intro t158_0 H locs ls hr hP hD hS hl
                          rw [hj158] at hr
                          refine lv_istore (lv' := [(6, .int t158_0), (0, .ref h0), (1, .int p0), (2, .int p1), (3, .int t15_0), (4, .int x109), (5, .int y28_5), (7, .int y28_7), (9, .int y117_9)]) hx hb dX12_makeForm_158 hl (by decide) rfl (fun ls hl => ?_)
                          refine lv_iinc (v := (y117_9 + 1)) (lv' := [(9, .int (y117_9 + 1)), (6, .int t158_0), (0, .ref h0), (1, .int p0), (2, .int p1), (3, .int t15_0), (4, .int x109), (5, .int y28_5), (7, .int y28_7)]) hx hb dX12_makeForm_160 hl (k := 8) rfl rfl (by decide) rfl (fun ls hl => ?_)
                          refine lv_goto (tgt := 117) hx hb dX12_makeForm_163 (by decide) ?_
                          exact ih117 t158_0 (y117_9 + 1) c141_g30 c141_g36 c141_F29 c141_F31 H _ ls hr hP hD hS (lv_sub hl [2, 3, 4, 5, 6, 7, 1, 8, 0] rfl)
                        refine lv_icmp_gt (tgt := 157) hx hb dX12_makeForm_150 (by decide) (fun c150 => ?_) (fun c150 => ?_)
                        · replace hr := iteT c150 hr
                          refine lv_iconst (v := 0) hx hb dX12_makeForm_157 (by decide +kernel) ?_
                          exact Jj158 0 H _ ls hr hP hD hS (lv_sub hl [0, 1, 2, 3, 4, 5, 7, 8] rfl)
                        · replace hr := iteF c150 hr
                          refine lv_iconst (v := 1) hx hb dX12_makeForm_153 (by decide +kernel) ?_
                          refine lv_goto (tgt := 158) hx hb dX12_makeForm_154 (by decide) ?_
                          exact Jj158 1 H _ ls hr hP hD hS (lv_sub hl [0, 1, 2, 3, 4, 5, 7, 8] rfl)
                exact lp117 NN y28_6 x115 t63_0 d28_g36 c98_F29 d28_F31 H _ ls hr hP hD hS (lv_sub hl [2, 3, 4, 5, 1, 6, 7, 8, 0] rfl)
              have lp68 : ∀ (n68 : Nat) (y68_9 : Int32) (d68_F29 : (Nat → Int32)) (H : Heap) (locs : List Loc) (ls : Array Slot), L_makeForm_68 F y28_4 t63_0 k98 n68 y68_9 d68_F29 = some (c_g30, c_g34, c_g36, c_F29, c_F31, c_F32, c_F33) → va_P (dC, dI) vwCl (mW h0 kB kI kZ q (upd (upd g 30 d28_g30) 36 d28_g36) (upF (upF (upF F 29 d68_F29) 31 d28_F31) 32 d28_F32)) H → va_D A (mW h0 kB kI kZ q (upd (upd g 30 d28_g30) 36 d28_g36) (upF (upF (upF F 29 d68_F29) 31 d28_F31) 32 d28_F32)) → va_S A s.heap H locs → lv_has ls 10 [(0, .ref h0), (1, .int p0), (2, .int p1), (3, .int t15_0), (4, .int y28_4), (5, .int y28_5), (6, .int y28_6), (7, .int y28_7), (8, .int t63_0), (9, .int y68_9)] → W p l e ({ frames := 4, cells := 0, slots := 0, locals := 112 } : Room) s m args below meth c H locs 0 0 Q (F0 m 68 ls []) := by
                intro n68
                induction n68 with
                | zero => intro y68_9 d68_F29 H locs ls hr; exact nomatch (show none = some (c_g30, c_g34, c_g36, c_F29, c_F31, c_F32, c_F33) from hr)
                | succ n68 ih68 =>
                  intro y68_9 d68_F29 H locs ls hr hP hD hS hl
                  replace hr : B_makeForm_68 F y28_4 t63_0 k98 (L_makeForm_68 F y28_4 t63_0 k98 n68) y68_9 d68_F29 = some (c_g30, c_g34, c_g36, c_F29, c_F31, c_F32, c_F33) := hr
                  unfold B_makeForm_68 at hr
                  refine lv_iload hx hb dX12_makeForm_68 (lv_at hl 9 rfl) ?_
                  refine lv_iload hx hb dX12_makeForm_70 (lv_at hl 8 rfl) ?_
                  refine lv_icmp_ge (tgt := 98) hx hb dX12_makeForm_72 (by decide) (fun c72 => ?_) (fun c72 => ?_)
                  · replace hr := iteT c72 hr
                    exact Jk98 d68_F29 H _ ls hr hP hD hS (lv_sub hl [0, 1, 2, 3, 4, 5, 6, 7, 8] rfl)
                  · replace hr := iteF c72 hr
                    refine lv_aload_n hx hb dX12_makeForm_75 rfl (lv_at hl 0 rfl) ?_
                    refine va_get (D := (dC, dI)) (ci := 12) (v := .ref (q 29)) (C := RX12) (T := TX12) (N := 71) hx hb hts inX12 hown hK hP 0 rfl rfl 29 (by decide) (hts (.fieldLink RX12 70 "SpellTurnerModel" "part" "[B") im_150) (fun _ h9 => h9) rfl dX12_makeForm_76 ?_
                    refine lv_iload hx hb dX12_makeForm_79 (lv_at hl 9 rfl) ?_
                    refine lv_aload_n hx hb dX12_makeForm_81 rfl (lv_at hl 0 rfl) ?_
                    refine va_get (D := (dC, dI)) (ci := 12) (v := .ref (q 22)) (C := RX12) (T := TX12) (N := 71) hx hb hts inX12 hown hK hP 0 rfl rfl 22 (by decide) (hts (.fieldLink RX12 55 "SpellTurnerModel" "word" "[B") im_50) (fun _ h9 => h9) rfl dX12_makeForm_82 ?_
                    refine lv_iload hx hb dX12_makeForm_85 (lv_at hl 4 rfl) ?_
                    refine lv_iload hx hb dX12_makeForm_87 (lv_at hl 9 rfl) ?_
                    refine lv_iadd hx hb dX12_makeForm_89 ?_
                    replace hr := iteS hr
                    obtain ⟨hi90, hr⟩ := hr
                    refine va_bald (f := (F 22)) hx hb hK hP 14 0 rfl rfl (inbV hi90) dX12_makeForm_90 ?_
                    replace hr := iteS hr
                    obtain ⟨hi91, hr⟩ := hr
                    refine va_bast (f := d68_F29) hx hb hK hP hD hS 19 0 rfl rfl (inbV hi91) dX12_makeForm_91 (fun H locs hP hD hS => ?_)
                    obtain ⟨w91, ew91, hP, hD⟩ : ∃ w91 : Nat → Int32, w91 = (upd d68_F29 (Int32.toNatClampNeg y68_9) (vp_nar .byte ((F 22) (Int32.toNatClampNeg (y28_4 + y68_9))))) ∧ va_P (dC, dI) vwCl (mW h0 kB kI kZ q (upd (upd g 30 d28_g30) 36 d28_g36) (upF (upF (upF F 29 w91) 31 d28_F31) 32 d28_F32)) H ∧ va_D A (mW h0 kB kI kZ q (upd (upd g 30 d28_g30) 36 d28_g36) (upF (upF (upF F 29 w91) 31 d28_F31) 32 d28_F32)) := ⟨(upd d68_F29 (Int32.toNatClampNeg y68_9) (vp_nar .byte ((F 22) (Int32.toNatClampNeg (y28_4 + y68_9))))), rfl, by first | exact sP_F29 hP (upF_in (by decide) (upF_in (by decide) upF_same)) | exact sP_F29 hP (upF_in (by decide) (upF_in (by decide) rfl)) | exact hP, by first | exact sD_F29 hD (upF_in (by decide) (upF_in (by decide) upF_same)) | exact sD_F29 hD (upF_in (by decide) (upF_in (by decide) rfl)) | exact hD⟩
                    replace hr := vlS hr w91 ew91
                    clear ew91
                    refine lv_iinc (v := (y68_9 + 1)) (lv' := [(9, .int (y68_9 + 1)), (0, .ref h0), (1, .int p0), (2, .int p1), (3, .int t15_0), (4, .int y28_4), (5, .int y28_5), (6, .int y28_6), (7, .int y28_7), (8, .int t63_0)]) hx hb dX12_makeForm_92 hl (k := 9) rfl rfl (by decide) rfl (fun ls hl => ?_)
                    refine lv_goto (tgt := 68) hx hb dX12_makeForm_95 (by decide) ?_
                    exact ih68 (y68_9 + 1) w91 H _ ls hr hP hD hS (lv_sub hl [1, 2, 3, 4, 5, 6, 7, 8, 9, 0] rfl)
              exact lp68 NN 0 d28_F29 H _ ls hr hP hD hS (lv_sub hl [2, 3, 4, 5, 6, 7, 8, 9, 1, 0] rfl)
            refine lv_icmp_ne (tgt := 51) hx hb dX12_makeForm_41 (by decide) (fun c41 => ?_) (fun c41 => ?_)
            · replace hr := iteF c41 hr
              refine lv_aload_n hx hb dX12_makeForm_51 rfl (lv_at hl 0 rfl) ?_
              refine va_get (D := (dC, dI)) (ci := 12) (v := .ref (q 25)) (C := RX12) (T := TX12) (N := 71) hx hb hts inX12 hown hK hP 0 rfl rfl 25 (by decide) (hts (.fieldLink RX12 61 "SpellTurnerModel" "ways" "[I") im_144) (fun _ h9 => h9) rfl dX12_makeForm_52 ?_
              refine lv_bipush (v := 24) hx hb dX12_makeForm_55 (by decide +kernel) ?_
              refine lv_iload_n hx hb dX12_makeForm_57 rfl (lv_at hl 2 rfl) ?_
              refine lv_imul hx hb dX12_makeForm_58 ?_
              refine lv_iload hx hb dX12_makeForm_59 (lv_at hl 7 rfl) ?_
              refine lv_iadd hx hb dX12_makeForm_61 ?_
              replace hr := iteS hr
              obtain ⟨hi62, hr⟩ := hr
              refine va_iald (f := (F 25)) hx hb hK hP 16 1 rfl rfl (inbV hi62) dX12_makeForm_62 ?_
              exact Jj63 ((F 25) (Int32.toNatClampNeg ((24 * p1) + y28_7))) H _ ls hr hP hD hS (lv_sub hl [0, 1, 2, 3, 4, 5, 6, 7] rfl)
            · replace hr := iteT c41 hr
              refine lv_aload_n hx hb dX12_makeForm_44 rfl (lv_at hl 0 rfl) ?_
              refine va_get (D := (dC, dI)) (ci := 12) (v := .int (g 23)) (C := RX12) (T := TX12) (N := 71) hx hb hts inX12 hown hK hP 0 rfl rfl 23 (by decide) (hts (.fieldLink RX12 244 "SpellTurnerModel" "letters" "I") im_49) (fun _ h9 => h9) rfl dX12_makeForm_45 ?_
              refine lv_goto (tgt := 63) hx hb dX12_makeForm_48 (by decide) ?_
              first | exact Jj63 (g 23) H _ ls hr (sP_eq (mW_cg (by repeat (first | with_reducible rfl | with_reducible refine upd_cg ?_ | refine Eq.trans ?_ (upd_id rfl))) (by repeat (first | with_reducible rfl | with_reducible refine upF_cg ?_ | refine Eq.trans ?_ (upF_id rfl)))) hP) (sD_eq (mW_cg (by repeat (first | with_reducible rfl | with_reducible refine upd_cg ?_ | refine Eq.trans ?_ (upd_id rfl))) (by repeat (first | with_reducible rfl | with_reducible refine upF_cg ?_ | refine Eq.trans ?_ (upF_id rfl)))) hD) hS (lv_sub hl [0, 1, 2, 3, 4, 5, 6, 7] rfl) | exact Jj63 (g 23) H _ ls hr hP hD hS (lv_sub hl [0, 1, 2, 3, 4, 5, 6, 7] rfl)
    first | exact lp28 NN 0 0 1 0 (g 30) (g 36) (F 29) (F 31) (F 32) H _ ls hr (sP_eq (mW_cg (by repeat (first | with_reducible rfl | with_reducible refine upd_cg ?_ | refine Eq.trans ?_ (upd_id rfl))) (by repeat (first | with_reducible rfl | with_reducible refine upF_cg ?_ | refine Eq.trans ?_ (upF_id rfl)))) hP) (sD_eq (mW_cg (by repeat (first | with_reducible rfl | with_reducible refine upd_cg ?_ | refine Eq.trans ?_ (upd_id rfl))) (by repeat (first | with_reducible rfl | with_reducible refine upF_cg ?_ | refine Eq.trans ?_ (upF_id rfl)))) hD) hS (lv_sub hl [5, 6, 7, 4, 3, 2, 1, 0] rfl) | exact lp28 NN 0 0 1 0 (g 30) (g 36) (F 29) (F 31) (F 32) H _ ls hr hP hD hS (lv_sub hl [5, 6, 7, 4, 3, 2, 1, 0] rfl)
  refine lv_icmp_ne (tgt := 9) hx hb dX12_makeForm_2 (by decide) (fun c2 => ?_) (fun c2 => ?_)
  · replace hr := iteF c2 hr
    refine lv_aload_n hx hb dX12_makeForm_9 rfl (lv_at hl 0 rfl) ?_
    refine va_get (D := (dC, dI)) (ci := 12) (v := .ref (q 26)) (C := RX12) (T := TX12) (N := 71) hx hb hts inX12 hown hK hP 0 rfl rfl 26 (by decide) (hts (.fieldLink RX12 64 "SpellTurnerModel" "wayParts" "[I") im_143) (fun _ h9 => h9) rfl dX12_makeForm_10 ?_
    refine lv_iload_n hx hb dX12_makeForm_13 rfl (lv_at hl 2 rfl) ?_
    replace hr := iteS hr
    obtain ⟨hi14, hr⟩ := hr
    refine va_iald (f := (F 26)) hx hb hK hP 17 1 rfl rfl (inbV hi14) dX12_makeForm_14 ?_
    exact Jj15 ((F 26) (Int32.toNatClampNeg p1)) H _ ls hr hP hD hS (lv_sub hl [0, 1, 2] rfl)
  · replace hr := iteT c2 hr
    refine lv_iconst (v := 1) hx hb dX12_makeForm_5 (by decide +kernel) ?_
    refine lv_goto (tgt := 15) hx hb dX12_makeForm_6 (by decide) ?_
    exact Jj15 1 H _ ls hr hP hD hS (lv_sub hl [0, 1, 2] rfl)
set_option maxHeartbeats 4000000 in
set_option maxRecDepth 100000 in
theorem m_makeForm (l : Launch) (dC : Nat → ClassId) (dI : Nat → Nat → Nat) (sz : Nat) (h0 : Nat) (kB kI kZ : ClassId) (q : Nat → Nat) (g : Nat → Int32) (F : Nat → Nat → Int32) (p0 : Int32) (p1 : Int32) (c_g30 : Int32) (c_g34 : Int32) (c_g36 : Int32) (c_F29 : (Nat → Int32)) (c_F31 : (Nat → Int32)) (c_F32 : (Nat → Int32)) (c_F33 : (Nat → Int32)) (hr : f_makeForm g F p0 p1 = some (c_g30, c_g34, c_g36, c_F29, c_F31, c_F32, c_F33)) : Met l yX12_makeForm vmX12_makeForm ({ frames := 4, cells := 0, slots := 0, locals := 112 } : Room) (va_Pc [.ref h0, .int p0, .int p1] (fun U => U.heap.size = sz ∧ va_P (dC, dI) vwCl (mW h0 kB kI kZ q g F) U.heap ∧ va_K (dC, dI) vwCl (mT kB kI kZ) U ∧ va_D (fun _ => True) (mW h0 kB kI kZ q g F))) (va_Qv (fun _ : Unit => True) (fun _ t => va_P (dC, dI) vwCl (mW h0 kB kI kZ q (upd (upd (upd g 30 c_g30) 34 c_g34) 36 c_g36) (upF (upF (upF (upF F 29 c_F29) 31 c_F31) 32 c_F32) 33 c_F33)) t.heap ∧ va_K (dC, dI) vwCl (mT kB kI kZ) t ∧ va_D (va_A (mW h0 kB kI kZ q g F) sz) (mW h0 kB kI kZ q (upd (upd (upd g 30 c_g30) 34 c_g34) 36 c_g36) (upF (upF (upF (upF F 29 c_F29) 31 c_F31) 32 c_F32) 33 c_F33))) (va_A (mW h0 kB kI kZ q g F) sz)) 0 0 (va_A (mW h0 kB kI kZ q g F) sz) := by
  refine Met.ofW (cc := cX12_makeForm) (maxL := 10) (ret := none) (by decide) rfl ?_
  intro p e s m args below meth c s₁ B hml hv
  obtain ⟨rfl, hsz, hP, hK, hD0⟩ := hv
  have hx := B.exec
  have hb := B.bytes
  have hrt := B.returns
  have hts := atoms_spec (ws := vmX12_makeForm) B.pre
  have hown : s.vm.findClass RX12 = some m.cls := findClass_of_methodNamed B.named
  subst hsz
  have hD := hD0.self (sz := s.heap.size)
  generalize hAe : va_A (mW h0 kB kI kZ q g F) s.heap.size = A at hD ⊢
  have hA : ∀ q : Nat, s.heap.size ≤ q → A q := fun q h => by rw [← hAe]; exact Or.inr h
  have hS : va_S A s.heap s.heap [] := va_S.rf
  have hl := lv_entry ([.ref h0, .int p0, .int p1]) (n := 10) (Nat.le_of_ble_eq_true rfl)
  rw [lg_entry_eq]
  generalize (lg_sl ([.ref h0, .int p0, .int p1]) ++ List.replicate (10 - (lg_sl ([.ref h0, .int p0, .int p1])).length) Slot.unset).toArray = ls at hl ⊢
  exact bm_makeForm p0 p1 c_g30 c_g34 c_g36 c_F29 c_F31 c_F32 c_F33 hr hx hb hml hown hts hA hK hP hD hS hl (fun pc ls c_g30z c_g34z c_g36z c_F29z c_F31z c_F32z c_F33z H locs he hd hP hD hS => by cases he; exact W.vret hx hb hrt (fun t ht hW => ⟨⟨(), rfl, trivial, by rw [ht]; exact hP, va_K.moved hW.alike hK, hD⟩, hS.F ht⟩) hS.2.2 hd)
set_option maxHeartbeats 4000000 in
set_option maxRecDepth 100000 in
theorem bm_turnBy {p : Program} {l : Launch} {e : Env} {s : State} {m : MethodId} {args : Array Value} {below : List Frame} {meth : Method} {c : Code} {Q : State → Prop} {A : Nat → Prop} {dC : Nat → ClassId} {dI : Nat → Nat → Nat} {h0 : Nat} {kB kI kZ : ClassId} {q : Nat → Nat} {g : Nat → Int32} {F : Nat → Nat → Int32} {H : Heap} {locs : List Loc} {ls : Array Slot} (p0 : Int32) (c_g27 : Int32) (c_g30 : Int32) (c_g34 : Int32) (c_g36 : Int32) (c_F24 : (Nat → Int32)) (c_F25 : (Nat → Int32)) (c_F26 : (Nat → Int32)) (c_F28 : (Nat → Int32)) (c_F29 : (Nat → Int32)) (c_F31 : (Nat → Int32)) (c_F32 : (Nat → Int32)) (c_F33 : (Nat → Int32)) (hr : f_turnBy g F p0 = some (c_g27, c_g30, c_g34, c_g36, c_F24, c_F25, c_F26, c_F28, c_F29, c_F31, c_F32, c_F33)) (hx : p.tables.exec = Jvm.exec) (hb : c.code = cX12_turnBy) (hml : c.maxLocals = 6) (hown : s.vm.findClass RX12 = some m.cls) (hts : ∀ w ∈ vmX12_turnBy, w.before args s = true) (hA : ∀ q : Nat, s.heap.size ≤ q → A q) (hK : va_K (dC, dI) vwCl (mT kB kI kZ) s) (hP : va_P (dC, dI) vwCl (mW h0 kB kI kZ q g F) H) (hD : va_D A (mW h0 kB kI kZ q g F)) (hS : va_S A s.heap H locs) (hl : lv_has ls 6 [(0, .ref h0), (1, .int p0)])
    (K : ∀ (pc : Nat) (ls : Array Slot) (c_g27z : Int32) (c_g30z : Int32) (c_g34z : Int32) (c_g36z : Int32) (c_F24z : (Nat → Int32)) (c_F25z : (Nat → Int32)) (c_F26z : (Nat → Int32)) (c_F28z : (Nat → Int32)) (c_F29z : (Nat → Int32)) (c_F31z : (Nat → Int32)) (c_F32z : (Nat → Int32)) (c_F33z : (Nat → Int32)) (H : Heap) (locs : List Loc), some (c_g27z, c_g30z, c_g34z, c_g36z, c_F24z, c_F25z, c_F26z, c_F28z, c_F29z, c_F31z, c_F32z, c_F33z) = some (c_g27, c_g30, c_g34, c_g36, c_F24, c_F25, c_F26, c_F28, c_F29, c_F31, c_F32, c_F33) → decode cX12_turnBy pc = .ok (.return_, 1) → va_P (dC, dI) vwCl (mW h0 kB kI kZ q (upd (upd (upd (upd g 27 c_g27z) 30 c_g30z) 34 c_g34z) 36 c_g36z) (upF (upF (upF (upF (upF (upF (upF (upF F 24 c_F24z) 25 c_F25z) 26 c_F26z) 28 c_F28z) 29 c_F29z) 31 c_F31z) 32 c_F32z) 33 c_F33z)) H → va_D A (mW h0 kB kI kZ q (upd (upd (upd (upd g 27 c_g27z) 30 c_g30z) 34 c_g34z) 36 c_g36z) (upF (upF (upF (upF (upF (upF (upF (upF F 24 c_F24z) 25 c_F25z) 26 c_F26z) 28 c_F28z) 29 c_F29z) 31 c_F31z) 32 c_F32z) 33 c_F33z)) → va_S A s.heap H locs → W p l e ({ frames := 45, cells := 0, slots := 0, locals := 1093 } : Room) s m args below meth c H locs 0 0 Q (F0 m pc ls [])) : W p l e ({ frames := 45, cells := 0, slots := 0, locals := 1093 } : Room) s m args below meth c H locs 0 0 Q (F0 m 0 ls []) := by
  unfold f_turnBy at hr
  refine lv_aload_n hx hb dX12_turnBy_0 rfl (lv_at hl 0 rfl) ?_
  refine lv_iconst (v := 0) hx hb dX12_turnBy_1 (by decide +kernel) ?_
  refine va_put (D := (dC, dI)) (ci := 12) (v := .int 0) (ty := .int) (C := RX12) (T := TX12) (N := 71) hx hb hts inX12 tyX12 tyX12_ok nmX12 hown hK hP hD hS 0 rfl rfl 34 (by decide) (hts (.fieldLink RX12 270 "SpellTurnerModel" "mades" "I") im_159) (fun _ h9 => h9) rfl (by decide +kernel) rfl rfl (Nat.le_of_ble_eq_true rfl) dX12_turnBy_2 (fun H locs hP hD hS => ?_)
  have hP : va_P (dC, dI) vwCl (mW h0 kB kI kZ q (upd g 34 0) F) H := by first | exact sP_g34 hP rfl | exact sP_g34 hP upd_same | exact hP
  have hD : va_D A (mW h0 kB kI kZ q (upd g 34 0) F) := by first | exact sD_g34 hD rfl | exact sD_g34 hD upd_same | exact hD
  refine lv_aload_n hx hb dX12_turnBy_5 rfl (lv_at hl 0 rfl) ?_
  refine lv_iload_n hx hb dX12_turnBy_6 rfl (lv_at hl 1 rfl) ?_
  replace hr := b1S hr
  obtain ⟨r7z, hc7, hr⟩ := hr
  have hFc := fr_all hD hS hA
  refine va_calli (va_runV (As := [.int p0]) (rest := []) ⟨hx, hb, hml, hown, hts⟩ (m_listedAs l dC dI H.size h0 kB kI kZ q (upd g 34 0) F p0 r7z hc7) (cwV 1 hts gw_X12_listedAs_277 rfl rfl rfl (by decide +kernel) ⟨Nat.le_of_ble_eq_true rfl, Nat.le_of_ble_eq_true rfl⟩) ⟨fun a U g mk q => by obtain ⟨q0, q1, qP, qK, qD⟩ := q; exact ⟨q0, q1, qP, va_K.moved (u := U) (U := U.calling g mk a) (Vm.Alike.refl U.vm) qK, qD⟩, va_recv hK hP (ci := 12) (q0 := 0) rfl rfl, fun U hU hW => ⟨rfl, by rw [hU], by rw [hU]; exact hP, va_K.moved hW.alike hK, hD.weaken (fun _ _ _ _ => trivial)⟩⟩ rfl rfl hl.1 rfl (lv_room (Nat.le_of_ble_eq_true rfl)) dX12_turnBy_7 ⟨Nat.le_of_ble_eq_true rfl, Nat.le_of_ble_eq_true rfl⟩) hS (fun q _ h => hFc q h) hFc (fun r7 u t H1 locs ht hvm hw hB hz1 hk1 hS => ?_)
  replace hw : r7 = r7z := hw
  subst hw
  obtain ⟨hP1, hK1, hD1⟩ := hB
  rw [ht] at hP1
  obtain ⟨hP, hD⟩ := jn_all (w1 := (mW h0 kB kI kZ q (upd g 34 0) F)) hFc hP1 hD1
  clear hFc hP1 hK1 hD1 hk1 hz1 ht hvm
  generalize H1 = H at hP hS ⊢
  have hP : va_P (dC, dI) vwCl (mW h0 kB kI kZ q (upd g 34 0) F) H := hP
  have hD : va_D A (mW h0 kB kI kZ q (upd g 34 0) F) := hD
  refine lv_istore_n (lv' := [(2, .int r7), (0, .ref h0), (1, .int p0)]) hx hb dX12_turnBy_10 rfl hl (by decide) rfl (fun ls hl => ?_)
  refine lv_iload_n hx hb dX12_turnBy_11 rfl (lv_at hl 0 rfl) ?_
  refine lv_iconst (v := (-1)) hx hb dX12_turnBy_12 (by decide +kernel) ?_
  refine lv_icmp_ne (tgt := 57) hx hb dX12_turnBy_13 (by decide) (fun c13 => ?_) (fun c13 => ?_)
  · replace hr := iteF c13 hr
    refine lv_aload_n hx hb dX12_turnBy_57 rfl (lv_at hl 1 rfl) ?_
    refine va_get (D := (dC, dI)) (ci := 12) (v := .ref (q 21)) (C := RX12) (T := TX12) (N := 71) hx hb hts inX12 hown hK hP 0 rfl rfl 21 (by decide) (hts (.fieldLink RX12 52 "SpellTurnerModel" "listSize" "[I") im_63) (fun _ h9 => h9) rfl dX12_turnBy_58 ?_
    refine lv_iconst (v := 2) hx hb dX12_turnBy_61 (by decide +kernel) ?_
    refine lv_iload_n hx hb dX12_turnBy_62 rfl (lv_at hl 0 rfl) ?_
    refine lv_imul hx hb dX12_turnBy_63 ?_
    refine lv_iconst (v := 1) hx hb dX12_turnBy_64 (by decide +kernel) ?_
    refine lv_iadd hx hb dX12_turnBy_65 ?_
    replace hr := iteS hr
    obtain ⟨hi66, hr⟩ := hr
    refine va_iald (f := (F 21)) hx hb hK hP 13 1 rfl rfl (inbV hi66) dX12_turnBy_66 ?_
    refine lv_iconst (v := (-1)) hx hb dX12_turnBy_67 (by decide +kernel) ?_
    replace hr := jnS hr
    obtain ⟨j76, hj76, hr⟩ := hr
    have Jj76 : ∀ (t76_0 : Int32) (H : Heap) (locs : List Loc) (ls : Array Slot), j76 t76_0 = some (c_g27, c_g30, c_g34, c_g36, c_F24, c_F25, c_F26, c_F28, c_F29, c_F31, c_F32, c_F33) → va_P (dC, dI) vwCl (mW h0 kB kI kZ q (upd g 34 0) F) H → va_D A (mW h0 kB kI kZ q (upd g 34 0) F) → va_S A s.heap H locs → lv_has ls 6 [(0, .ref h0), (2, .int r7)] → W p l e ({ frames := 45, cells := 0, slots := 0, locals := 1093 } : Room) s m args below meth c H locs 0 0 Q (F0 m 76 ls [.int t76_0]) := by
      intro t76_0 H locs ls hr hP hD hS hl
      rw [hj76] at hr
      refine lv_istore_n (lv' := [(3, .int t76_0), (0, .ref h0), (2, .int r7)]) hx hb dX12_turnBy_76 rfl hl (by decide) rfl (fun ls hl => ?_)
      refine lv_iload_n hx hb dX12_turnBy_77 rfl (lv_at hl 0 rfl) ?_
      replace hr := jnS hr
      obtain ⟨j98, hj98, hr⟩ := hr
      have Jj98 : ∀ (t98_0 : Int32) (H : Heap) (locs : List Loc) (ls : Array Slot), j98 t98_0 = some (c_g27, c_g30, c_g34, c_g36, c_F24, c_F25, c_F26, c_F28, c_F29, c_F31, c_F32, c_F33) → va_P (dC, dI) vwCl (mW h0 kB kI kZ q (upd g 34 0) F) H → va_D A (mW h0 kB kI kZ q (upd g 34 0) F) → va_S A s.heap H locs → lv_has ls 6 [(0, .ref h0), (2, .int r7), (3, .int t76_0)] → W p l e ({ frames := 45, cells := 0, slots := 0, locals := 1093 } : Room) s m args below meth c H locs 0 0 Q (F0 m 98 ls [.int t98_0]) := by
        intro t98_0 H locs ls hr hP hD hS hl
        rw [hj98] at hr
        refine lv_istore (lv' := [(4, .int t98_0), (0, .ref h0), (2, .int r7), (3, .int t76_0)]) hx hb dX12_turnBy_98 hl (by decide) rfl (fun ls hl => ?_)
        refine lv_iconst (v := 0) hx hb dX12_turnBy_100 (by decide +kernel) ?_
        refine lv_istore (lv' := [(5, .int 0), (4, .int t98_0), (0, .ref h0), (2, .int r7), (3, .int t76_0)]) hx hb dX12_turnBy_101 hl (by decide) rfl (fun ls hl => ?_)
        replace hr := jnS hr
        obtain ⟨k153, hk153, hr⟩ := hr
        have Jk153 : ∀ (c153_F32 : (Nat → Int32)) (H : Heap) (locs : List Loc) (ls : Array Slot), k153 c153_F32 = some (c_g27, c_g30, c_g34, c_g36, c_F24, c_F25, c_F26, c_F28, c_F29, c_F31, c_F32, c_F33) → va_P (dC, dI) vwCl (mW h0 kB kI kZ q (upd g 34 0) (upF F 32 c153_F32)) H → va_D A (mW h0 kB kI kZ q (upd g 34 0) (upF F 32 c153_F32)) → va_S A s.heap H locs → lv_has ls 6 [(0, .ref h0), (4, .int t98_0)] → W p l e ({ frames := 45, cells := 0, slots := 0, locals := 1093 } : Room) s m args below meth c H locs 0 0 Q (F0 m 153 ls []) := by
          intro c153_F32 H locs ls hr hP hD hS hl
          rw [hk153] at hr
          refine lv_aload_n hx hb dX12_turnBy_153 rfl (lv_at hl 0 rfl) ?_
          refine va_get (D := (dC, dI)) (ci := 12) (v := .ref (q 33)) (C := RX12) (T := TX12) (N := 71) hx hb hts inX12 hown hK hP 0 rfl rfl 33 (by decide) (hts (.fieldLink RX12 79 "SpellTurnerModel" "madeSize" "[I") im_158) (fun _ h9 => h9) rfl dX12_turnBy_154 ?_
          refine lv_iconst (v := 0) hx hb dX12_turnBy_157 (by decide +kernel) ?_
          refine lv_iload hx hb dX12_turnBy_158 (lv_at hl 1 rfl) ?_
          replace hr := iteS hr
          obtain ⟨hi160, hr⟩ := hr
          refine va_iast (f := (F 33)) hx hb hK hP hD hS 22 1 rfl rfl (inbV hi160) dX12_turnBy_160 (fun H locs hP hD hS => ?_)
          obtain ⟨w160, ew160, hP, hD⟩ : ∃ w160 : Nat → Int32, w160 = (upd (F 33) (Int32.toNatClampNeg 0) t98_0) ∧ va_P (dC, dI) vwCl (mW h0 kB kI kZ q (upd g 34 0) (upF (upF F 32 c153_F32) 33 w160)) H ∧ va_D A (mW h0 kB kI kZ q (upd g 34 0) (upF (upF F 32 c153_F32) 33 w160)) := ⟨(upd (F 33) (Int32.toNatClampNeg 0) t98_0), rfl, by first | exact sP_F33 hP rfl | exact sP_F33 hP upF_same | exact hP, by first | exact sD_F33 hD rfl | exact sD_F33 hD upF_same | exact hD⟩
          replace hr := vlS hr w160 ew160
          clear ew160
          refine lv_aload_n hx hb dX12_turnBy_161 rfl (lv_at hl 0 rfl) ?_
          refine lv_iload hx hb dX12_turnBy_162 (lv_at hl 1 rfl) ?_
          replace hr := jnS hr
          obtain ⟨j172, hj172, hr⟩ := hr
          have Jj172 : ∀ (t172_0 : Int32) (H : Heap) (locs : List Loc) (ls : Array Slot), j172 t172_0 = some (c_g27, c_g30, c_g34, c_g36, c_F24, c_F25, c_F26, c_F28, c_F29, c_F31, c_F32, c_F33) → va_P (dC, dI) vwCl (mW h0 kB kI kZ q (upd g 34 0) (upF (upF F 32 c153_F32) 33 w160)) H → va_D A (mW h0 kB kI kZ q (upd g 34 0) (upF (upF F 32 c153_F32) 33 w160)) → va_S A s.heap H locs → lv_has ls 6 [] → W p l e ({ frames := 45, cells := 0, slots := 0, locals := 1093 } : Room) s m args below meth c H locs 0 0 Q (F0 m 172 ls [.int t172_0, .ref h0]) := by
            intro t172_0 H locs ls hr hP hD hS hl
            rw [hj172] at hr
            refine va_put (D := (dC, dI)) (ci := 12) (v := .int t172_0) (ty := .int) (C := RX12) (T := TX12) (N := 71) hx hb hts inX12 tyX12 tyX12_ok nmX12 hown hK hP hD hS 0 rfl rfl 34 (by decide) (hts (.fieldLink RX12 270 "SpellTurnerModel" "mades" "I") im_159) (fun _ h9 => h9) rfl (by decide +kernel) rfl rfl (Nat.le_of_ble_eq_true rfl) dX12_turnBy_172 (fun H locs hP hD hS => ?_)
            have hP : va_P (dC, dI) vwCl (mW h0 kB kI kZ q (upd g 34 t172_0) (upF (upF F 32 c153_F32) 33 w160)) H := by first | exact sP_g34 hP upd_same | exact sP_g34 hP rfl | exact hP
            have hD : va_D A (mW h0 kB kI kZ q (upd g 34 t172_0) (upF (upF F 32 c153_F32) 33 w160)) := by first | exact sD_g34 hD upd_same | exact sD_g34 hD rfl | exact hD
            first | exact K 175 ls _ _ _ _ _ _ _ _ _ _ _ _ H _ hr dX12_turnBy_175 (sP_eq (mW_cg (by repeat (first | with_reducible rfl | with_reducible refine upd_cg ?_ | refine Eq.trans ?_ (upd_id rfl))) (by repeat (first | with_reducible rfl | with_reducible refine upF_cg ?_ | refine Eq.trans ?_ (upF_id rfl)))) hP) (sD_eq (mW_cg (by repeat (first | with_reducible rfl | with_reducible refine upd_cg ?_ | refine Eq.trans ?_ (upd_id rfl))) (by repeat (first | with_reducible rfl | with_reducible refine upF_cg ?_ | refine Eq.trans ?_ (upF_id rfl)))) hD) hS | exact K 175 ls _ _ _ _ _ _ _ _ _ _ _ _ H _ hr dX12_turnBy_175 hP hD hS
          refine lv_if_ne (tgt := 171) hx hb dX12_turnBy_164 (by decide) (fun c164 => ?_) (fun c164 => ?_)
          · replace hr := iteF c164 hr
            refine lv_iconst (v := 1) hx hb dX12_turnBy_171 (by decide +kernel) ?_
            exact Jj172 1 H _ ls hr hP hD hS (lv_sub hl [] rfl)
          · replace hr := iteT c164 hr
            refine lv_iconst (v := 0) hx hb dX12_turnBy_167 (by decide +kernel) ?_
            refine lv_goto (tgt := 172) hx hb dX12_turnBy_168 (by decide) ?_
            exact Jj172 0 H _ ls hr hP hD hS (lv_sub hl [] rfl)
        have lp103 : ∀ (n103 : Nat) (y103_5 : Int32) (d103_F32 : (Nat → Int32)) (H : Heap) (locs : List Loc) (ls : Array Slot), L_turnBy_103 F r7 t76_0 t98_0 k153 n103 y103_5 d103_F32 = some (c_g27, c_g30, c_g34, c_g36, c_F24, c_F25, c_F26, c_F28, c_F29, c_F31, c_F32, c_F33) → va_P (dC, dI) vwCl (mW h0 kB kI kZ q (upd g 34 0) (upF F 32 d103_F32)) H → va_D A (mW h0 kB kI kZ q (upd g 34 0) (upF F 32 d103_F32)) → va_S A s.heap H locs → lv_has ls 6 [(0, .ref h0), (2, .int r7), (3, .int t76_0), (4, .int t98_0), (5, .int y103_5)] → W p l e ({ frames := 45, cells := 0, slots := 0, locals := 1093 } : Room) s m args below meth c H locs 0 0 Q (F0 m 103 ls []) := by
          intro n103
          induction n103 with
          | zero => intro y103_5 d103_F32 H locs ls hr; exact nomatch (show none = some (c_g27, c_g30, c_g34, c_g36, c_F24, c_F25, c_F26, c_F28, c_F29, c_F31, c_F32, c_F33) from hr)
          | succ n103 ih103 =>
            intro y103_5 d103_F32 H locs ls hr hP hD hS hl
            replace hr : B_turnBy_103 F r7 t76_0 t98_0 k153 (L_turnBy_103 F r7 t76_0 t98_0 k153 n103) y103_5 d103_F32 = some (c_g27, c_g30, c_g34, c_g36, c_F24, c_F25, c_F26, c_F28, c_F29, c_F31, c_F32, c_F33) := hr
            unfold B_turnBy_103 at hr
            refine lv_iload hx hb dX12_turnBy_103 (lv_at hl 4 rfl) ?_
            refine lv_iload hx hb dX12_turnBy_105 (lv_at hl 3 rfl) ?_
            refine lv_icmp_ge (tgt := 153) hx hb dX12_turnBy_107 (by decide) (fun c107 => ?_) (fun c107 => ?_)
            · replace hr := iteT c107 hr
              exact Jk153 d103_F32 H _ ls hr hP hD hS (lv_sub hl [0, 3] rfl)
            · replace hr := iteF c107 hr
              refine lv_aload_n hx hb dX12_turnBy_110 rfl (lv_at hl 0 rfl) ?_
              refine va_get (D := (dC, dI)) (ci := 12) (v := .ref (q 32)) (C := RX12) (T := TX12) (N := 71) hx hb hts inX12 hown hK hP 0 rfl rfl 32 (by decide) (hts (.fieldLink RX12 76 "SpellTurnerModel" "made" "[B") im_160) (fun _ h9 => h9) rfl dX12_turnBy_111 ?_
              refine lv_iload hx hb dX12_turnBy_114 (lv_at hl 4 rfl) ?_
              refine lv_iload_n hx hb dX12_turnBy_116 rfl (lv_at hl 2 rfl) ?_
              replace hr := jnS hr
              obtain ⟨j146, hj146, hr⟩ := hr
              have Jj146 : ∀ (t146_0 : Int32) (H : Heap) (locs : List Loc) (ls : Array Slot), j146 t146_0 = some (c_g27, c_g30, c_g34, c_g36, c_F24, c_F25, c_F26, c_F28, c_F29, c_F31, c_F32, c_F33) → va_P (dC, dI) vwCl (mW h0 kB kI kZ q (upd g 34 0) (upF F 32 d103_F32)) H → va_D A (mW h0 kB kI kZ q (upd g 34 0) (upF F 32 d103_F32)) → va_S A s.heap H locs → lv_has ls 6 [(0, .ref h0), (2, .int r7), (3, .int t76_0), (4, .int t98_0), (5, .int y103_5)] → W p l e ({ frames := 45, cells := 0, slots := 0, locals := 1093 } : Room) s m args below meth c H locs 0 0 Q (F0 m 146 ls [.int t146_0, .int y103_5, .ref (q 32)]) := by
                intro t146_0 H locs ls hr hP hD hS hl
                rw [hj146] at hr
                replace hr := iteS hr
                obtain ⟨hi146, hr⟩ := hr
                refine va_bast (f := d103_F32) hx hb hK hP hD hS 21 0 rfl rfl (inbV hi146) dX12_turnBy_146 (fun H locs hP hD hS => ?_)
                obtain ⟨w146, ew146, hP, hD⟩ : ∃ w146 : Nat → Int32, w146 = (upd d103_F32 (Int32.toNatClampNeg y103_5) (vp_nar .byte t146_0)) ∧ va_P (dC, dI) vwCl (mW h0 kB kI kZ q (upd g 34 0) (upF F 32 w146)) H ∧ va_D A (mW h0 kB kI kZ q (upd g 34 0) (upF F 32 w146)) := ⟨(upd d103_F32 (Int32.toNatClampNeg y103_5) (vp_nar .byte t146_0)), rfl, by first | exact sP_F32 hP upF_same | exact sP_F32 hP rfl | exact hP, by first | exact sD_F32 hD upF_same | exact sD_F32 hD rfl | exact hD⟩
                replace hr := vlS hr w146 ew146
                clear ew146
                refine lv_iinc (v := (y103_5 + 1)) (lv' := [(5, .int (y103_5 + 1)), (0, .ref h0), (2, .int r7), (3, .int t76_0), (4, .int t98_0)]) hx hb dX12_turnBy_147 hl (k := 4) rfl rfl (by decide) rfl (fun ls hl => ?_)
                refine lv_goto (tgt := 103) hx hb dX12_turnBy_150 (by decide) ?_
                exact ih103 (y103_5 + 1) w146 H _ ls hr hP hD hS (lv_sub hl [1, 2, 3, 4, 0] rfl)
              refine lv_if_eq (tgt := 130) hx hb dX12_turnBy_117 (by decide) (fun c117 => ?_) (fun c117 => ?_)
              · replace hr := iteT c117 hr
                refine lv_aload_n hx hb dX12_turnBy_130 rfl (lv_at hl 0 rfl) ?_
                refine va_get (D := (dC, dI)) (ci := 12) (v := .ref (q 20)) (C := RX12) (T := TX12) (N := 71) hx hb hts inX12 hown hK hP 0 rfl rfl 20 (by decide) (hts (.fieldLink RX12 49 "SpellTurnerModel" "listText" "[B") im_121) (fun _ h9 => h9) rfl dX12_turnBy_131 ?_
                refine lv_bipush (v := 16) hx hb dX12_turnBy_134 (by decide +kernel) ?_
                refine lv_iconst (v := 2) hx hb dX12_turnBy_136 (by decide +kernel) ?_
                refine lv_iload_n hx hb dX12_turnBy_137 rfl (lv_at hl 1 rfl) ?_
                refine lv_imul hx hb dX12_turnBy_138 ?_
                refine lv_iconst (v := 1) hx hb dX12_turnBy_139 (by decide +kernel) ?_
                refine lv_iadd hx hb dX12_turnBy_140 ?_
                refine lv_imul hx hb dX12_turnBy_141 ?_
                refine lv_iload hx hb dX12_turnBy_142 (lv_at hl 4 rfl) ?_
                refine lv_iadd hx hb dX12_turnBy_144 ?_
                replace hr := iteS hr
                obtain ⟨hi145, hr⟩ := hr
                refine va_bald (f := (F 20)) hx hb hK hP 12 0 rfl rfl (inbV hi145) dX12_turnBy_145 ?_
                exact Jj146 ((F 20) (Int32.toNatClampNeg ((16 * ((2 * r7) + 1)) + y103_5))) H _ ls hr hP hD hS (lv_sub hl [0, 1, 2, 3, 4] rfl)
              · replace hr := iteF c117 hr
                refine lv_aload_n hx hb dX12_turnBy_120 rfl (lv_at hl 0 rfl) ?_
                refine va_get (D := (dC, dI)) (ci := 12) (v := .ref (q 22)) (C := RX12) (T := TX12) (N := 71) hx hb hts inX12 hown hK hP 0 rfl rfl 22 (by decide) (hts (.fieldLink RX12 55 "SpellTurnerModel" "word" "[B") im_50) (fun _ h9 => h9) rfl dX12_turnBy_121 ?_
                refine lv_iload hx hb dX12_turnBy_124 (lv_at hl 4 rfl) ?_
                replace hr := iteS hr
                obtain ⟨hi126, hr⟩ := hr
                refine va_bald (f := (F 22)) hx hb hK hP 14 0 rfl rfl (inbV hi126) dX12_turnBy_126 ?_
                refine lv_goto (tgt := 146) hx hb dX12_turnBy_127 (by decide) ?_
                exact Jj146 ((F 22) (Int32.toNatClampNeg y103_5)) H _ ls hr hP hD hS (lv_sub hl [0, 1, 2, 3, 4] rfl)
        first | exact lp103 NN 0 (F 32) H _ ls hr (sP_eq (mW_cg (by repeat (first | with_reducible rfl | with_reducible refine upd_cg ?_ | refine Eq.trans ?_ (upd_id rfl))) (by repeat (first | with_reducible rfl | with_reducible refine upF_cg ?_ | refine Eq.trans ?_ (upF_id rfl)))) hP) (sD_eq (mW_cg (by repeat (first | with_reducible rfl | with_reducible refine upd_cg ?_ | refine Eq.trans ?_ (upd_id rfl))) (by repeat (first | with_reducible rfl | with_reducible refine upF_cg ?_ | refine Eq.trans ?_ (upF_id rfl)))) hD) hS (lv_sub hl [2, 3, 4, 1, 0] rfl) | exact lp103 NN 0 (F 32) H _ ls hr hP hD hS (lv_sub hl [2, 3, 4, 1, 0] rfl)
      refine lv_if_eq (tgt := 88) hx hb dX12_turnBy_78 (by decide) (fun c78 => ?_) (fun c78 => ?_)
      · replace hr := iteT c78 hr
        refine lv_aload_n hx hb dX12_turnBy_88 rfl (lv_at hl 1 rfl) ?_
        refine va_get (D := (dC, dI)) (ci := 12) (v := .ref (q 21)) (C := RX12) (T := TX12) (N := 71) hx hb hts inX12 hown hK hP 0 rfl rfl 21 (by decide) (hts (.fieldLink RX12 52 "SpellTurnerModel" "listSize" "[I") im_63) (fun _ h9 => h9) rfl dX12_turnBy_89 ?_
        refine lv_iconst (v := 2) hx hb dX12_turnBy_92 (by decide +kernel) ?_
        refine lv_iload_n hx hb dX12_turnBy_93 rfl (lv_at hl 2 rfl) ?_
        refine lv_imul hx hb dX12_turnBy_94 ?_
        refine lv_iconst (v := 1) hx hb dX12_turnBy_95 (by decide +kernel) ?_
        refine lv_iadd hx hb dX12_turnBy_96 ?_
        replace hr := iteS hr
        obtain ⟨hi97, hr⟩ := hr
        refine va_iald (f := (F 21)) hx hb hK hP 13 1 rfl rfl (inbV hi97) dX12_turnBy_97 ?_
        exact Jj98 ((F 21) (Int32.toNatClampNeg ((2 * r7) + 1))) H _ ls hr hP hD hS (lv_sub hl [1, 2, 0] rfl)
      · replace hr := iteF c78 hr
        refine lv_aload_n hx hb dX12_turnBy_81 rfl (lv_at hl 1 rfl) ?_
        refine va_get (D := (dC, dI)) (ci := 12) (v := .int (g 23)) (C := RX12) (T := TX12) (N := 71) hx hb hts inX12 hown hK hP 0 rfl rfl 23 (by decide) (hts (.fieldLink RX12 244 "SpellTurnerModel" "letters" "I") im_49) (fun _ h9 => h9) rfl dX12_turnBy_82 ?_
        refine lv_goto (tgt := 98) hx hb dX12_turnBy_85 (by decide) ?_
        first | exact Jj98 (g 23) H _ ls hr (sP_eq (mW_cg (by repeat (first | with_reducible rfl | with_reducible refine upd_cg ?_ | refine Eq.trans ?_ (upd_id rfl))) (by repeat (first | with_reducible rfl | with_reducible refine upF_cg ?_ | refine Eq.trans ?_ (upF_id rfl)))) hP) (sD_eq (mW_cg (by repeat (first | with_reducible rfl | with_reducible refine upd_cg ?_ | refine Eq.trans ?_ (upd_id rfl))) (by repeat (first | with_reducible rfl | with_reducible refine upF_cg ?_ | refine Eq.trans ?_ (upF_id rfl)))) hD) hS (lv_sub hl [1, 2, 0] rfl) | exact Jj98 (g 23) H _ ls hr hP hD hS (lv_sub hl [1, 2, 0] rfl)
    refine lv_icmp_ne (tgt := 75) hx hb dX12_turnBy_68 (by decide) (fun c68 => ?_) (fun c68 => ?_)
    · replace hr := iteF c68 hr
      refine lv_iconst (v := 0) hx hb dX12_turnBy_75 (by decide +kernel) ?_
      exact Jj76 0 H _ ls hr hP hD hS (lv_sub hl [1, 0] rfl)
    · replace hr := iteT c68 hr
      refine lv_iconst (v := 1) hx hb dX12_turnBy_71 (by decide +kernel) ?_
      refine lv_goto (tgt := 76) hx hb dX12_turnBy_72 (by decide) ?_
      exact Jj76 1 H _ ls hr hP hD hS (lv_sub hl [1, 0] rfl)
  · replace hr := iteT c13 hr
    refine lv_aload_n hx hb dX12_turnBy_16 rfl (lv_at hl 1 rfl) ?_
    refine lv_iload_n hx hb dX12_turnBy_17 rfl (lv_at hl 2 rfl) ?_
    replace hr := b5S hr
    obtain ⟨c18_g27, c18_F24, c18_F25, c18_F26, c18_F28, hc18, hr⟩ := hr
    have hFc := fr_all hD hS hA
    refine va_callv (va_runV (As := [.int p0]) (rest := []) ⟨hx, hb, hml, hown, hts⟩ (m_makeWays l dC dI H.size h0 kB kI kZ q (upd g 34 0) F p0 c18_g27 c18_F24 c18_F25 c18_F26 c18_F28 hc18) (cwV 1 hts gw_X12_makeWays_280 rfl rfl rfl (by decide +kernel) ⟨Nat.le_of_ble_eq_true rfl, Nat.le_of_ble_eq_true rfl⟩) ⟨fun a U g mk q => by obtain ⟨q0, q1, qP, qK, qD⟩ := q; exact ⟨q0, q1, qP, va_K.moved (u := U) (U := U.calling g mk a) (Vm.Alike.refl U.vm) qK, qD⟩, va_recv hK hP (ci := 12) (q0 := 0) rfl rfl, fun U hU hW => ⟨rfl, by rw [hU], by rw [hU]; exact hP, va_K.moved hW.alike hK, hD.weaken (fun _ _ _ _ => trivial)⟩⟩ rfl rfl hl.1 rfl (lv_room (Nat.le_of_ble_eq_true rfl)) dX12_turnBy_18 ⟨Nat.le_of_ble_eq_true rfl, Nat.le_of_ble_eq_true rfl⟩) hS (fun q _ h => hFc q h) hFc (fun u t H1 locs ht hvm hw hB hz1 hk1 hS => ?_)
    obtain ⟨hP1, hK1, hD1⟩ := hB
    rw [ht] at hP1
    obtain ⟨hP, hD⟩ := jn_all (w1 := (mW h0 kB kI kZ q (upd (upd g 27 c18_g27) 34 0) (upF (upF (upF (upF F 24 c18_F24) 25 c18_F25) 26 c18_F26) 28 c18_F28))) hFc hP1 hD1
    clear hFc hP1 hK1 hD1 hk1 hz1 ht hvm
    generalize H1 = H at hP hS ⊢
    have hP : va_P (dC, dI) vwCl (mW h0 kB kI kZ q (upd (upd g 27 c18_g27) 34 0) (upF (upF (upF (upF F 24 c18_F24) 25 c18_F25) 26 c18_F26) 28 c18_F28)) H := hP
    have hD : va_D A (mW h0 kB kI kZ q (upd (upd g 27 c18_g27) 34 0) (upF (upF (upF (upF F 24 c18_F24) 25 c18_F25) 26 c18_F26) 28 c18_F28)) := hD
    refine lv_aload_n hx hb dX12_turnBy_21 rfl (lv_at hl 1 rfl) ?_
    refine va_get (D := (dC, dI)) (ci := 12) (v := .int c18_g27) (C := RX12) (T := TX12) (N := 71) hx hb hts inX12 hown hK hP 0 rfl rfl 27 (by decide) (hts (.fieldLink RX12 241 "SpellTurnerModel" "wayMany" "I") im_134) (fun _ h9 => h9) rfl dX12_turnBy_22 ?_
    replace hr := jnS hr
    obtain ⟨j34, hj34, hr⟩ := hr
    have Jj34 : ∀ (c34_g30 : Int32) (c34_g34 : Int32) (c34_g36 : Int32) (c34_F29 : (Nat → Int32)) (c34_F31 : (Nat → Int32)) (c34_F32 : (Nat → Int32)) (c34_F33 : (Nat → Int32)) (H : Heap) (locs : List Loc) (ls : Array Slot), j34 c34_g30 c34_g34 c34_g36 c34_F29 c34_F31 c34_F32 c34_F33 = some (c_g27, c_g30, c_g34, c_g36, c_F24, c_F25, c_F26, c_F28, c_F29, c_F31, c_F32, c_F33) → va_P (dC, dI) vwCl (mW h0 kB kI kZ q (upd (upd (upd (upd g 27 c18_g27) 30 c34_g30) 34 c34_g34) 36 c34_g36) (upF (upF (upF (upF (upF (upF (upF (upF F 24 c18_F24) 25 c18_F25) 26 c18_F26) 28 c18_F28) 29 c34_F29) 31 c34_F31) 32 c34_F32) 33 c34_F33)) H → va_D A (mW h0 kB kI kZ q (upd (upd (upd (upd g 27 c18_g27) 30 c34_g30) 34 c34_g34) 36 c34_g36) (upF (upF (upF (upF (upF (upF (upF (upF F 24 c18_F24) 25 c18_F25) 26 c18_F26) 28 c18_F28) 29 c34_F29) 31 c34_F31) 32 c34_F32) 33 c34_F33)) → va_S A s.heap H locs → lv_has ls 6 [(0, .ref h0), (1, .int p0)] → W p l e ({ frames := 45, cells := 0, slots := 0, locals := 1093 } : Room) s m args below meth c H locs 0 0 Q (F0 m 34 ls []) := by
      intro c34_g30 c34_g34 c34_g36 c34_F29 c34_F31 c34_F32 c34_F33 H locs ls hr hP hD hS hl
      rw [hj34] at hr
      refine lv_iconst (v := 0) hx hb dX12_turnBy_34 (by decide +kernel) ?_
      refine lv_istore_n (lv' := [(3, .int 0), (0, .ref h0), (1, .int p0)]) hx hb dX12_turnBy_35 rfl hl (by decide) rfl (fun ls hl => ?_)
      have lp36 : ∀ (n36 : Nat) (y36_3 : Int32) (d36_g30 : Int32) (d36_g34 : Int32) (d36_g36 : Int32) (d36_F29 : (Nat → Int32)) (d36_F31 : (Nat → Int32)) (d36_F32 : (Nat → Int32)) (d36_F33 : (Nat → Int32)) (H : Heap) (locs : List Loc) (ls : Array Slot), L_turnBy_36 g F p0 c18_g27 c18_F24 c18_F25 c18_F26 c18_F28 n36 y36_3 d36_g30 d36_g34 d36_g36 d36_F29 d36_F31 d36_F32 d36_F33 = some (c_g27, c_g30, c_g34, c_g36, c_F24, c_F25, c_F26, c_F28, c_F29, c_F31, c_F32, c_F33) → va_P (dC, dI) vwCl (mW h0 kB kI kZ q (upd (upd (upd (upd g 27 c18_g27) 30 d36_g30) 34 d36_g34) 36 d36_g36) (upF (upF (upF (upF (upF (upF (upF (upF F 24 c18_F24) 25 c18_F25) 26 c18_F26) 28 c18_F28) 29 d36_F29) 31 d36_F31) 32 d36_F32) 33 d36_F33)) H → va_D A (mW h0 kB kI kZ q (upd (upd (upd (upd g 27 c18_g27) 30 d36_g30) 34 d36_g34) 36 d36_g36) (upF (upF (upF (upF (upF (upF (upF (upF F 24 c18_F24) 25 c18_F25) 26 c18_F26) 28 c18_F28) 29 d36_F29) 31 d36_F31) 32 d36_F32) 33 d36_F33)) → va_S A s.heap H locs → lv_has ls 6 [(0, .ref h0), (1, .int p0), (3, .int y36_3)] → W p l e ({ frames := 45, cells := 0, slots := 0, locals := 1093 } : Room) s m args below meth c H locs 0 0 Q (F0 m 36 ls []) := by
        intro n36
        induction n36 with
        | zero => intro y36_3 d36_g30 d36_g34 d36_g36 d36_F29 d36_F31 d36_F32 d36_F33 H locs ls hr; exact nomatch (show none = some (c_g27, c_g30, c_g34, c_g36, c_F24, c_F25, c_F26, c_F28, c_F29, c_F31, c_F32, c_F33) from hr)
        | succ n36 ih36 =>
          intro y36_3 d36_g30 d36_g34 d36_g36 d36_F29 d36_F31 d36_F32 d36_F33 H locs ls hr hP hD hS hl
          replace hr : B_turnBy_36 g F p0 c18_g27 c18_F24 c18_F25 c18_F26 c18_F28 (L_turnBy_36 g F p0 c18_g27 c18_F24 c18_F25 c18_F26 c18_F28 n36) y36_3 d36_g30 d36_g34 d36_g36 d36_F29 d36_F31 d36_F32 d36_F33 = some (c_g27, c_g30, c_g34, c_g36, c_F24, c_F25, c_F26, c_F28, c_F29, c_F31, c_F32, c_F33) := hr
          unfold B_turnBy_36 at hr
          refine lv_iload_n hx hb dX12_turnBy_36 rfl (lv_at hl 2 rfl) ?_
          refine lv_aload_n hx hb dX12_turnBy_37 rfl (lv_at hl 0 rfl) ?_
          refine va_get (D := (dC, dI)) (ci := 12) (v := .int c18_g27) (C := RX12) (T := TX12) (N := 71) hx hb hts inX12 hown hK hP 0 rfl rfl 27 (by decide) (hts (.fieldLink RX12 241 "SpellTurnerModel" "wayMany" "I") im_134) (fun _ h9 => h9) rfl dX12_turnBy_38 ?_
          refine lv_icmp_ge (tgt := 56) hx hb dX12_turnBy_41 (by decide) (fun c41 => ?_) (fun c41 => ?_)
          · replace hr := iteT c41 hr
            first | exact K 56 ls _ _ _ _ _ _ _ _ _ _ _ _ H _ hr dX12_turnBy_56 (sP_eq (mW_cg (by repeat (first | with_reducible rfl | with_reducible refine upd_cg ?_ | refine Eq.trans ?_ (upd_id rfl))) (by repeat (first | with_reducible rfl | with_reducible refine upF_cg ?_ | refine Eq.trans ?_ (upF_id rfl)))) hP) (sD_eq (mW_cg (by repeat (first | with_reducible rfl | with_reducible refine upd_cg ?_ | refine Eq.trans ?_ (upd_id rfl))) (by repeat (first | with_reducible rfl | with_reducible refine upF_cg ?_ | refine Eq.trans ?_ (upF_id rfl)))) hD) hS | exact K 56 ls _ _ _ _ _ _ _ _ _ _ _ _ H _ hr dX12_turnBy_56 hP hD hS
          · replace hr := iteF c41 hr
            refine lv_aload_n hx hb dX12_turnBy_44 rfl (lv_at hl 0 rfl) ?_
            refine lv_iload_n hx hb dX12_turnBy_45 rfl (lv_at hl 1 rfl) ?_
            refine lv_iload_n hx hb dX12_turnBy_46 rfl (lv_at hl 2 rfl) ?_
            replace hr := b7S hr
            obtain ⟨c47_g30, c47_g34, c47_g36, c47_F29, c47_F31, c47_F32, c47_F33, hc47, hr⟩ := hr
            have hFc := fr_all hD hS hA
            refine va_callv (va_runV (As := [.int p0, .int y36_3]) (rest := []) ⟨hx, hb, hml, hown, hts⟩ (m_makeForm l dC dI H.size h0 kB kI kZ q (upd (upd (upd (upd g 27 c18_g27) 30 d36_g30) 34 d36_g34) 36 d36_g36) (upF (upF (upF (upF (upF (upF (upF (upF F 24 c18_F24) 25 c18_F25) 26 c18_F26) 28 c18_F28) 29 d36_F29) 31 d36_F31) 32 d36_F32) 33 d36_F33) p0 y36_3 c47_g30 c47_g34 c47_g36 c47_F29 c47_F31 c47_F32 c47_F33 hc47) (cwV 2 hts gw_X12_makeForm_283 rfl rfl rfl (by decide +kernel) ⟨Nat.le_of_ble_eq_true rfl, Nat.le_of_ble_eq_true rfl⟩) ⟨fun a U g mk q => by obtain ⟨q0, q1, qP, qK, qD⟩ := q; exact ⟨q0, q1, qP, va_K.moved (u := U) (U := U.calling g mk a) (Vm.Alike.refl U.vm) qK, qD⟩, va_recv hK hP (ci := 12) (q0 := 0) rfl rfl, fun U hU hW => ⟨rfl, by rw [hU], by rw [hU]; exact hP, va_K.moved hW.alike hK, hD.weaken (fun _ _ _ _ => trivial)⟩⟩ rfl rfl hl.1 rfl (lv_room (Nat.le_of_ble_eq_true rfl)) dX12_turnBy_47 ⟨Nat.le_of_ble_eq_true rfl, Nat.le_of_ble_eq_true rfl⟩) hS (fun q _ h => hFc q h) hFc (fun u t H1 locs ht hvm hw hB hz1 hk1 hS => ?_)
            obtain ⟨hP1, hK1, hD1⟩ := hB
            rw [ht] at hP1
            obtain ⟨hP, hD⟩ := jn_all (w1 := (mW h0 kB kI kZ q (upd (upd (upd (upd g 27 c18_g27) 30 c47_g30) 34 c47_g34) 36 c47_g36) (upF (upF (upF (upF (upF (upF (upF (upF F 24 c18_F24) 25 c18_F25) 26 c18_F26) 28 c18_F28) 29 c47_F29) 31 c47_F31) 32 c47_F32) 33 c47_F33))) hFc hP1 hD1
            clear hFc hP1 hK1 hD1 hk1 hz1 ht hvm
            generalize H1 = H at hP hS ⊢
            have hP : va_P (dC, dI) vwCl (mW h0 kB kI kZ q (upd (upd (upd (upd g 27 c18_g27) 30 c47_g30) 34 c47_g34) 36 c47_g36) (upF (upF (upF (upF (upF (upF (upF (upF F 24 c18_F24) 25 c18_F25) 26 c18_F26) 28 c18_F28) 29 c47_F29) 31 c47_F31) 32 c47_F32) 33 c47_F33)) H := hP
            have hD : va_D A (mW h0 kB kI kZ q (upd (upd (upd (upd g 27 c18_g27) 30 c47_g30) 34 c47_g34) 36 c47_g36) (upF (upF (upF (upF (upF (upF (upF (upF F 24 c18_F24) 25 c18_F25) 26 c18_F26) 28 c18_F28) 29 c47_F29) 31 c47_F31) 32 c47_F32) 33 c47_F33)) := hD
            refine lv_iinc (v := (y36_3 + 1)) (lv' := [(3, .int (y36_3 + 1)), (0, .ref h0), (1, .int p0)]) hx hb dX12_turnBy_50 hl (k := 2) rfl rfl (by decide) rfl (fun ls hl => ?_)
            refine lv_goto (tgt := 36) hx hb dX12_turnBy_53 (by decide) ?_
            exact ih36 (y36_3 + 1) c47_g30 c47_g34 c47_g36 c47_F29 c47_F31 c47_F32 c47_F33 H _ ls hr hP hD hS (lv_sub hl [1, 2, 0] rfl)
      exact lp36 NN 0 c34_g30 c34_g34 c34_g36 c34_F29 c34_F31 c34_F32 c34_F33 H _ ls hr hP hD hS (lv_sub hl [1, 2, 0] rfl)
    refine lv_if_ne (tgt := 34) hx hb dX12_turnBy_25 (by decide) (fun c25 => ?_) (fun c25 => ?_)
    · replace hr := iteF c25 hr
      first | exact Jj34 (g 30) 0 (g 36) (F 29) (F 31) (F 32) (F 33) H _ ls hr (sP_eq (mW_cg (by repeat (first | with_reducible rfl | with_reducible refine upd_cg ?_ | refine Eq.trans ?_ (upd_id rfl))) (by repeat (first | with_reducible rfl | with_reducible refine upF_cg ?_ | refine Eq.trans ?_ (upF_id rfl)))) hP) (sD_eq (mW_cg (by repeat (first | with_reducible rfl | with_reducible refine upd_cg ?_ | refine Eq.trans ?_ (upd_id rfl))) (by repeat (first | with_reducible rfl | with_reducible refine upF_cg ?_ | refine Eq.trans ?_ (upF_id rfl)))) hD) hS (lv_sub hl [1, 2] rfl) | exact Jj34 (g 30) 0 (g 36) (F 29) (F 31) (F 32) (F 33) H _ ls hr hP hD hS (lv_sub hl [1, 2] rfl)
    · replace hr := iteT c25 hr
      refine lv_aload_n hx hb dX12_turnBy_28 rfl (lv_at hl 1 rfl) ?_
      refine lv_iload_n hx hb dX12_turnBy_29 rfl (lv_at hl 2 rfl) ?_
      refine lv_iconst (v := (-1)) hx hb dX12_turnBy_30 (by decide +kernel) ?_
      replace hr := b7S hr
      obtain ⟨c31_g30, c31_g34, c31_g36, c31_F29, c31_F31, c31_F32, c31_F33, hc31, hr⟩ := hr
      have hFc := fr_all hD hS hA
      refine va_callv (va_runV (As := [.int p0, .int (-1)]) (rest := []) ⟨hx, hb, hml, hown, hts⟩ (m_makeForm l dC dI H.size h0 kB kI kZ q (upd (upd g 27 c18_g27) 34 0) (upF (upF (upF (upF F 24 c18_F24) 25 c18_F25) 26 c18_F26) 28 c18_F28) p0 (-1) c31_g30 c31_g34 c31_g36 c31_F29 c31_F31 c31_F32 c31_F33 hc31) (cwV 2 hts gw_X12_makeForm_283 rfl rfl rfl (by decide +kernel) ⟨Nat.le_of_ble_eq_true rfl, Nat.le_of_ble_eq_true rfl⟩) ⟨fun a U g mk q => by obtain ⟨q0, q1, qP, qK, qD⟩ := q; exact ⟨q0, q1, qP, va_K.moved (u := U) (U := U.calling g mk a) (Vm.Alike.refl U.vm) qK, qD⟩, va_recv hK hP (ci := 12) (q0 := 0) rfl rfl, fun U hU hW => ⟨rfl, by rw [hU], by rw [hU]; exact hP, va_K.moved hW.alike hK, hD.weaken (fun _ _ _ _ => trivial)⟩⟩ rfl rfl hl.1 rfl (lv_room (Nat.le_of_ble_eq_true rfl)) dX12_turnBy_31 ⟨Nat.le_of_ble_eq_true rfl, Nat.le_of_ble_eq_true rfl⟩) hS (fun q _ h => hFc q h) hFc (fun u t H1 locs ht hvm hw hB hz1 hk1 hS => ?_)
      obtain ⟨hP1, hK1, hD1⟩ := hB
      rw [ht] at hP1
      obtain ⟨hP, hD⟩ := jn_all (w1 := (mW h0 kB kI kZ q (upd (upd (upd (upd g 27 c18_g27) 30 c31_g30) 34 c31_g34) 36 c31_g36) (upF (upF (upF (upF (upF (upF (upF (upF F 24 c18_F24) 25 c18_F25) 26 c18_F26) 28 c18_F28) 29 c31_F29) 31 c31_F31) 32 c31_F32) 33 c31_F33))) hFc hP1 hD1
      clear hFc hP1 hK1 hD1 hk1 hz1 ht hvm
      generalize H1 = H at hP hS ⊢
      have hP : va_P (dC, dI) vwCl (mW h0 kB kI kZ q (upd (upd (upd (upd g 27 c18_g27) 30 c31_g30) 34 c31_g34) 36 c31_g36) (upF (upF (upF (upF (upF (upF (upF (upF F 24 c18_F24) 25 c18_F25) 26 c18_F26) 28 c18_F28) 29 c31_F29) 31 c31_F31) 32 c31_F32) 33 c31_F33)) H := hP
      have hD : va_D A (mW h0 kB kI kZ q (upd (upd (upd (upd g 27 c18_g27) 30 c31_g30) 34 c31_g34) 36 c31_g36) (upF (upF (upF (upF (upF (upF (upF (upF F 24 c18_F24) 25 c18_F25) 26 c18_F26) 28 c18_F28) 29 c31_F29) 31 c31_F31) 32 c31_F32) 33 c31_F33)) := hD
      exact Jj34 c31_g30 c31_g34 c31_g36 c31_F29 c31_F31 c31_F32 c31_F33 H _ ls hr hP hD hS (lv_sub hl [1, 2] rfl)
set_option maxHeartbeats 4000000 in
set_option maxRecDepth 100000 in
theorem m_turnBy (l : Launch) (dC : Nat → ClassId) (dI : Nat → Nat → Nat) (sz : Nat) (h0 : Nat) (kB kI kZ : ClassId) (q : Nat → Nat) (g : Nat → Int32) (F : Nat → Nat → Int32) (p0 : Int32) (c_g27 : Int32) (c_g30 : Int32) (c_g34 : Int32) (c_g36 : Int32) (c_F24 : (Nat → Int32)) (c_F25 : (Nat → Int32)) (c_F26 : (Nat → Int32)) (c_F28 : (Nat → Int32)) (c_F29 : (Nat → Int32)) (c_F31 : (Nat → Int32)) (c_F32 : (Nat → Int32)) (c_F33 : (Nat → Int32)) (hr : f_turnBy g F p0 = some (c_g27, c_g30, c_g34, c_g36, c_F24, c_F25, c_F26, c_F28, c_F29, c_F31, c_F32, c_F33)) : Met l yX12_turnBy vmX12_turnBy ({ frames := 45, cells := 0, slots := 0, locals := 1093 } : Room) (va_Pc [.ref h0, .int p0] (fun U => U.heap.size = sz ∧ va_P (dC, dI) vwCl (mW h0 kB kI kZ q g F) U.heap ∧ va_K (dC, dI) vwCl (mT kB kI kZ) U ∧ va_D (fun _ => True) (mW h0 kB kI kZ q g F))) (va_Qv (fun _ : Unit => True) (fun _ t => va_P (dC, dI) vwCl (mW h0 kB kI kZ q (upd (upd (upd (upd g 27 c_g27) 30 c_g30) 34 c_g34) 36 c_g36) (upF (upF (upF (upF (upF (upF (upF (upF F 24 c_F24) 25 c_F25) 26 c_F26) 28 c_F28) 29 c_F29) 31 c_F31) 32 c_F32) 33 c_F33)) t.heap ∧ va_K (dC, dI) vwCl (mT kB kI kZ) t ∧ va_D (va_A (mW h0 kB kI kZ q g F) sz) (mW h0 kB kI kZ q (upd (upd (upd (upd g 27 c_g27) 30 c_g30) 34 c_g34) 36 c_g36) (upF (upF (upF (upF (upF (upF (upF (upF F 24 c_F24) 25 c_F25) 26 c_F26) 28 c_F28) 29 c_F29) 31 c_F31) 32 c_F32) 33 c_F33))) (va_A (mW h0 kB kI kZ q g F) sz)) 0 0 (va_A (mW h0 kB kI kZ q g F) sz) := by
  refine Met.ofW (cc := cX12_turnBy) (maxL := 6) (ret := none) (by decide) rfl ?_
  intro p e s m args below meth c s₁ B hml hv
  obtain ⟨rfl, hsz, hP, hK, hD0⟩ := hv
  have hx := B.exec
  have hb := B.bytes
  have hrt := B.returns
  have hts := atoms_spec (ws := vmX12_turnBy) B.pre
  have hown : s.vm.findClass RX12 = some m.cls := findClass_of_methodNamed B.named
  subst hsz
  have hD := hD0.self (sz := s.heap.size)
  generalize hAe : va_A (mW h0 kB kI kZ q g F) s.heap.size = A at hD ⊢
  have hA : ∀ q : Nat, s.heap.size ≤ q → A q := fun q h => by rw [← hAe]; exact Or.inr h
  have hS : va_S A s.heap s.heap [] := va_S.rf
  have hl := lv_entry ([.ref h0, .int p0]) (n := 6) (Nat.le_of_ble_eq_true rfl)
  rw [lg_entry_eq]
  generalize (lg_sl ([.ref h0, .int p0]) ++ List.replicate (6 - (lg_sl ([.ref h0, .int p0])).length) Slot.unset).toArray = ls at hl ⊢
  exact bm_turnBy p0 c_g27 c_g30 c_g34 c_g36 c_F24 c_F25 c_F26 c_F28 c_F29 c_F31 c_F32 c_F33 hr hx hb hml hown hts hA hK hP hD hS hl (fun pc ls c_g27z c_g30z c_g34z c_g36z c_F24z c_F25z c_F26z c_F28z c_F29z c_F31z c_F32z c_F33z H locs he hd hP hD hS => by cases he; exact W.vret hx hb hrt (fun t ht hW => ⟨⟨(), rfl, trivial, by rw [ht]; exact hP, va_K.moved hW.alike hK, hD⟩, hS.F ht⟩) hS.2.2 hd)
set_option maxHeartbeats 4000000 in
set_option maxRecDepth 100000 in
theorem bm_takeWord_37 {p : Program} {l : Launch} {e : Env} {s : State} {m : MethodId} {args : Array Value} {below : List Frame} {meth : Method} {c : Code} {Q : State → Prop} {A : Nat → Prop} {dC : Nat → ClassId} {dI : Nat → Nat → Nat} {h0 : Nat} {kB kI kZ : ClassId} {q : Nat → Nat} {g : Nat → Int32} {F : Nat → Nat → Int32} {H : Heap} {locs : List Loc} {ls : Array Slot} (p1 : Int32) (p2 : Int32) (c_g23 : Int32) (c_F22 : (Nat → Int32)) (hr : f_takeWord g F (F 37) 288 p1 p2 = some (c_g23, c_F22)) (hx : p.tables.exec = Jvm.exec) (hb : c.code = cX12_takeWord) (hml : c.maxLocals = 5) (hown : s.vm.findClass RX12 = some m.cls) (hts : ∀ w ∈ vmX12_takeWord, w.before args s = true) (hA : ∀ q : Nat, s.heap.size ≤ q → A q) (hK : va_K (dC, dI) vwCl (mT kB kI kZ) s) (hP : va_P (dC, dI) vwCl (mW h0 kB kI kZ q g F) H) (hD : va_D A (mW h0 kB kI kZ q g F)) (hS : va_S A s.heap H locs) (hl : lv_has ls 5 [(0, .ref h0), (1, .ref (q 37)), (2, .int p1), (3, .int p2)])
    (K : ∀ (pc : Nat) (ls : Array Slot) (c_g23z : Int32) (c_F22z : (Nat → Int32)) (H : Heap) (locs : List Loc), some (c_g23z, c_F22z) = some (c_g23, c_F22) → decode cX12_takeWord pc = .ok (.return_, 1) → va_P (dC, dI) vwCl (mW h0 kB kI kZ q (upd g 23 c_g23z) (upF F 22 c_F22z)) H → va_D A (mW h0 kB kI kZ q (upd g 23 c_g23z) (upF F 22 c_F22z)) → va_S A s.heap H locs → W p l e ({ frames := 2, cells := 0, slots := 0, locals := 60 } : Room) s m args below meth c H locs 0 0 Q (F0 m pc ls [])) : W p l e ({ frames := 2, cells := 0, slots := 0, locals := 60 } : Room) s m args below meth c H locs 0 0 Q (F0 m 0 ls []) := by
  unfold f_takeWord at hr
  refine lv_iconst (v := 0) hx hb dX12_takeWord_0 (by decide +kernel) ?_
  refine lv_istore (lv' := [(4, .int 0), (0, .ref h0), (1, .ref (q 37)), (2, .int p1), (3, .int p2)]) hx hb dX12_takeWord_1 hl (by decide) rfl (fun ls hl => ?_)
  have lp3 : ∀ (n3 : Nat) (y3_4 : Int32) (d3_F22 : (Nat → Int32)) (H : Heap) (locs : List Loc) (ls : Array Slot), L_takeWord_3 (F 37) 288 p1 p2 n3 y3_4 d3_F22 = some (c_g23, c_F22) → va_P (dC, dI) vwCl (mW h0 kB kI kZ q g (upF F 22 d3_F22)) H → va_D A (mW h0 kB kI kZ q g (upF F 22 d3_F22)) → va_S A s.heap H locs → lv_has ls 5 [(0, .ref h0), (1, .ref (q 37)), (2, .int p1), (3, .int p2), (4, .int y3_4)] → W p l e ({ frames := 2, cells := 0, slots := 0, locals := 60 } : Room) s m args below meth c H locs 0 0 Q (F0 m 3 ls []) := by
    intro n3
    induction n3 with
    | zero => intro y3_4 d3_F22 H locs ls hr; exact nomatch (show none = some (c_g23, c_F22) from hr)
    | succ n3 ih3 =>
      intro y3_4 d3_F22 H locs ls hr hP hD hS hl
      replace hr : B_takeWord_3 (F 37) 288 p1 p2 (L_takeWord_3 (F 37) 288 p1 p2 n3) y3_4 d3_F22 = some (c_g23, c_F22) := hr
      unfold B_takeWord_3 at hr
      refine lv_iload hx hb dX12_takeWord_3 (lv_at hl 4 rfl) ?_
      refine lv_iload_n hx hb dX12_takeWord_5 rfl (lv_at hl 3 rfl) ?_
      refine lv_icmp_ge (tgt := 28) hx hb dX12_takeWord_6 (by decide) (fun c6 => ?_) (fun c6 => ?_)
      · replace hr := iteT c6 hr
        refine lv_aload_n hx hb dX12_takeWord_28 rfl (lv_at hl 0 rfl) ?_
        refine lv_iload_n hx hb dX12_takeWord_29 rfl (lv_at hl 3 rfl) ?_
        refine va_put (D := (dC, dI)) (ci := 12) (v := .int p2) (ty := .int) (C := RX12) (T := TX12) (N := 71) hx hb hts inX12 tyX12 tyX12_ok nmX12 hown hK hP hD hS 0 rfl rfl 23 (by decide) (hts (.fieldLink RX12 244 "SpellTurnerModel" "letters" "I") im_49) (fun _ h9 => h9) rfl (by decide +kernel) rfl rfl (Nat.le_of_ble_eq_true rfl) dX12_takeWord_30 (fun H locs hP hD hS => ?_)
        have hP : va_P (dC, dI) vwCl (mW h0 kB kI kZ q (upd g 23 p2) (upF F 22 d3_F22)) H := by first | exact sP_g23 hP rfl | exact sP_g23 hP upd_same | exact hP
        have hD : va_D A (mW h0 kB kI kZ q (upd g 23 p2) (upF F 22 d3_F22)) := by first | exact sD_g23 hD rfl | exact sD_g23 hD upd_same | exact hD
        first | exact K 33 ls _ _ H _ hr dX12_takeWord_33 (sP_eq (mW_cg (by repeat (first | with_reducible rfl | with_reducible refine upd_cg ?_ | refine Eq.trans ?_ (upd_id rfl))) (by repeat (first | with_reducible rfl | with_reducible refine upF_cg ?_ | refine Eq.trans ?_ (upF_id rfl)))) hP) (sD_eq (mW_cg (by repeat (first | with_reducible rfl | with_reducible refine upd_cg ?_ | refine Eq.trans ?_ (upd_id rfl))) (by repeat (first | with_reducible rfl | with_reducible refine upF_cg ?_ | refine Eq.trans ?_ (upF_id rfl)))) hD) hS | exact K 33 ls _ _ H _ hr dX12_takeWord_33 hP hD hS
      · replace hr := iteF c6 hr
        refine lv_aload_n hx hb dX12_takeWord_9 rfl (lv_at hl 0 rfl) ?_
        refine va_get (D := (dC, dI)) (ci := 12) (v := .ref (q 22)) (C := RX12) (T := TX12) (N := 71) hx hb hts inX12 hown hK hP 0 rfl rfl 22 (by decide) (hts (.fieldLink RX12 55 "SpellTurnerModel" "word" "[B") im_50) (fun _ h9 => h9) rfl dX12_takeWord_10 ?_
        refine lv_iload hx hb dX12_takeWord_13 (lv_at hl 4 rfl) ?_
        refine lv_aload_n hx hb dX12_takeWord_15 rfl (lv_at hl 1 rfl) ?_
        refine lv_iload_n hx hb dX12_takeWord_16 rfl (lv_at hl 2 rfl) ?_
        refine lv_iload hx hb dX12_takeWord_17 (lv_at hl 4 rfl) ?_
        refine lv_iadd hx hb dX12_takeWord_19 ?_
        replace hr := iteS hr
        obtain ⟨hi20, hr⟩ := hr
        refine va_bald (f := (F 37)) hx hb hK hP 23 0 rfl rfl (inbV hi20) dX12_takeWord_20 ?_
        replace hr := iteS hr
        obtain ⟨hi21, hr⟩ := hr
        refine va_bast (f := d3_F22) hx hb hK hP hD hS 14 0 rfl rfl (inbV hi21) dX12_takeWord_21 (fun H locs hP hD hS => ?_)
        obtain ⟨w21, ew21, hP, hD⟩ : ∃ w21 : Nat → Int32, w21 = (upd d3_F22 (Int32.toNatClampNeg y3_4) (vp_nar .byte ((F 37) (Int32.toNatClampNeg (p1 + y3_4))))) ∧ va_P (dC, dI) vwCl (mW h0 kB kI kZ q g (upF F 22 w21)) H ∧ va_D A (mW h0 kB kI kZ q g (upF F 22 w21)) := ⟨(upd d3_F22 (Int32.toNatClampNeg y3_4) (vp_nar .byte ((F 37) (Int32.toNatClampNeg (p1 + y3_4))))), rfl, by first | exact sP_F22 hP upF_same | exact sP_F22 hP rfl | exact hP, by first | exact sD_F22 hD upF_same | exact sD_F22 hD rfl | exact hD⟩
        replace hr := vlS hr w21 ew21
        clear ew21
        refine lv_iinc (v := (y3_4 + 1)) (lv' := [(4, .int (y3_4 + 1)), (0, .ref h0), (1, .ref (q 37)), (2, .int p1), (3, .int p2)]) hx hb dX12_takeWord_22 hl (k := 4) rfl rfl (by decide) rfl (fun ls hl => ?_)
        refine lv_goto (tgt := 3) hx hb dX12_takeWord_25 (by decide) ?_
        exact ih3 (y3_4 + 1) w21 H _ ls hr hP hD hS (lv_sub hl [1, 2, 3, 4, 0] rfl)
  first | exact lp3 NN 0 (F 22) H _ ls hr (sP_eq (mW_cg (by repeat (first | with_reducible rfl | with_reducible refine upd_cg ?_ | refine Eq.trans ?_ (upd_id rfl))) (by repeat (first | with_reducible rfl | with_reducible refine upF_cg ?_ | refine Eq.trans ?_ (upF_id rfl)))) hP) (sD_eq (mW_cg (by repeat (first | with_reducible rfl | with_reducible refine upd_cg ?_ | refine Eq.trans ?_ (upd_id rfl))) (by repeat (first | with_reducible rfl | with_reducible refine upF_cg ?_ | refine Eq.trans ?_ (upF_id rfl)))) hD) hS (lv_sub hl [1, 2, 3, 4, 0] rfl) | exact lp3 NN 0 (F 22) H _ ls hr hP hD hS (lv_sub hl [1, 2, 3, 4, 0] rfl)
set_option maxHeartbeats 4000000 in
set_option maxRecDepth 100000 in
theorem m_takeWord_37 (l : Launch) (dC : Nat → ClassId) (dI : Nat → Nat → Nat) (sz : Nat) (h0 : Nat) (kB kI kZ : ClassId) (q : Nat → Nat) (g : Nat → Int32) (F : Nat → Nat → Int32) (p1 : Int32) (p2 : Int32) (c_g23 : Int32) (c_F22 : (Nat → Int32)) (hr : f_takeWord g F (F 37) 288 p1 p2 = some (c_g23, c_F22)) : Met l yX12_takeWord vmX12_takeWord ({ frames := 2, cells := 0, slots := 0, locals := 60 } : Room) (va_Pc [.ref h0, .ref (q 37), .int p1, .int p2] (fun U => U.heap.size = sz ∧ va_P (dC, dI) vwCl (mW h0 kB kI kZ q g F) U.heap ∧ va_K (dC, dI) vwCl (mT kB kI kZ) U ∧ va_D (fun _ => True) (mW h0 kB kI kZ q g F))) (va_Qv (fun _ : Unit => True) (fun _ t => va_P (dC, dI) vwCl (mW h0 kB kI kZ q (upd g 23 c_g23) (upF F 22 c_F22)) t.heap ∧ va_K (dC, dI) vwCl (mT kB kI kZ) t ∧ va_D (va_A (mW h0 kB kI kZ q g F) sz) (mW h0 kB kI kZ q (upd g 23 c_g23) (upF F 22 c_F22))) (va_A (mW h0 kB kI kZ q g F) sz)) 0 0 (va_A (mW h0 kB kI kZ q g F) sz) := by
  refine Met.ofW (cc := cX12_takeWord) (maxL := 5) (ret := none) (by decide) rfl ?_
  intro p e s m args below meth c s₁ B hml hv
  obtain ⟨rfl, hsz, hP, hK, hD0⟩ := hv
  have hx := B.exec
  have hb := B.bytes
  have hrt := B.returns
  have hts := atoms_spec (ws := vmX12_takeWord) B.pre
  have hown : s.vm.findClass RX12 = some m.cls := findClass_of_methodNamed B.named
  subst hsz
  have hD := hD0.self (sz := s.heap.size)
  generalize hAe : va_A (mW h0 kB kI kZ q g F) s.heap.size = A at hD ⊢
  have hA : ∀ q : Nat, s.heap.size ≤ q → A q := fun q h => by rw [← hAe]; exact Or.inr h
  have hS : va_S A s.heap s.heap [] := va_S.rf
  have hl := lv_entry ([.ref h0, .ref (q 37), .int p1, .int p2]) (n := 5) (Nat.le_of_ble_eq_true rfl)
  rw [lg_entry_eq]
  generalize (lg_sl ([.ref h0, .ref (q 37), .int p1, .int p2]) ++ List.replicate (5 - (lg_sl ([.ref h0, .ref (q 37), .int p1, .int p2])).length) Slot.unset).toArray = ls at hl ⊢
  exact bm_takeWord_37 p1 p2 c_g23 c_F22 hr hx hb hml hown hts hA hK hP hD hS hl (fun pc ls c_g23z c_F22z H locs he hd hP hD hS => by cases he; exact W.vret hx hb hrt (fun t ht hW => ⟨⟨(), rfl, trivial, by rw [ht]; exact hP, va_K.moved hW.alike hK, hD⟩, hS.F ht⟩) hS.2.2 hd)
set_option maxHeartbeats 4000000 in
set_option maxRecDepth 100000 in
theorem bm_sameBytes_40_32 {p : Program} {l : Launch} {e : Env} {s : State} {m : MethodId} {args : Array Value} {below : List Frame} {meth : Method} {c : Code} {Q : State → Prop} {A : Nat → Prop} {dC : Nat → ClassId} {dI : Nat → Nat → Nat} {h0 : Nat} {kB kI kZ : ClassId} {q : Nat → Nat} {g : Nat → Int32} {F : Nat → Nat → Int32} {H : Heap} {locs : List Loc} {ls : Array Slot} (p1 : Int32) (p2 : Int32) (p4 : Int32) (p5 : Int32) (r : Int32) (hr : f_sameBytes (F 40) 288 p1 p2 (F 32) 720 p4 p5 = some r) (hx : p.tables.exec = Jvm.exec) (hb : c.code = cX12_sameBytes) (hml : c.maxLocals = 7) (hown : s.vm.findClass RX12 = some m.cls) (hts : ∀ w ∈ vmX12_sameBytes, w.before args s = true) (hA : ∀ q : Nat, s.heap.size ≤ q → A q) (hK : va_K (dC, dI) vwCl (mT kB kI kZ) s) (hP : va_P (dC, dI) vwCl (mW h0 kB kI kZ q g F) H) (hD : va_D A (mW h0 kB kI kZ q g F)) (hS : va_S A s.heap H locs) (hl : lv_has ls 7 [(0, .ref (q 40)), (1, .int p1), (2, .int p2), (3, .ref (q 32)), (4, .int p4), (5, .int p5)])
    (K : ∀ (pc : Nat) (ls : Array Slot) (rz : Int32) (H : Heap) (locs : List Loc), some rz = some r → is01 rz → decode cX12_sameBytes pc = .ok (.ireturn, 1) → va_P (dC, dI) vwCl (mW h0 kB kI kZ q g F) H → va_D A (mW h0 kB kI kZ q g F) → va_S A s.heap H locs → W p l e ({ frames := 2, cells := 0, slots := 0, locals := 60 } : Room) s m args below meth c H locs 0 0 Q (F0 m pc ls [.int rz])) : W p l e ({ frames := 2, cells := 0, slots := 0, locals := 60 } : Room) s m args below meth c H locs 0 0 Q (F0 m 0 ls []) := by
  unfold f_sameBytes at hr
  refine lv_iload_n hx hb dX12_sameBytes_0 rfl (lv_at hl 2 rfl) ?_
  refine lv_iload hx hb dX12_sameBytes_1 (lv_at hl 5 rfl) ?_
  refine lv_icmp_eq (tgt := 8) hx hb dX12_sameBytes_3 (by decide) (fun c3 => ?_) (fun c3 => ?_)
  · replace hr := iteT c3 hr
    refine lv_iconst (v := 0) hx hb dX12_sameBytes_8 (by decide +kernel) ?_
    refine lv_istore (lv' := [(6, .int 0), (0, .ref (q 40)), (1, .int p1), (2, .int p2), (3, .ref (q 32)), (4, .int p4), (5, .int p5)]) hx hb dX12_sameBytes_9 hl (by decide) rfl (fun ls hl => ?_)
    have lp11 : ∀ (n11 : Nat) (y11_6 : Int32) (H : Heap) (locs : List Loc) (ls : Array Slot), L_sameBytes_11 (F 40) 288 p1 p2 (F 32) 720 p4 n11 y11_6 = some r → va_P (dC, dI) vwCl (mW h0 kB kI kZ q g F) H → va_D A (mW h0 kB kI kZ q g F) → va_S A s.heap H locs → lv_has ls 7 [(0, .ref (q 40)), (1, .int p1), (2, .int p2), (3, .ref (q 32)), (4, .int p4), (6, .int y11_6)] → W p l e ({ frames := 2, cells := 0, slots := 0, locals := 60 } : Room) s m args below meth c H locs 0 0 Q (F0 m 11 ls []) := by
      intro n11
      induction n11 with
      | zero => intro y11_6 H locs ls hr; exact nomatch (show none = some r from hr)
      | succ n11 ih11 =>
        intro y11_6 H locs ls hr hP hD hS hl
        replace hr : B_sameBytes_11 (F 40) 288 p1 p2 (F 32) 720 p4 (L_sameBytes_11 (F 40) 288 p1 p2 (F 32) 720 p4 n11) y11_6 = some r := hr
        unfold B_sameBytes_11 at hr
        refine lv_iload hx hb dX12_sameBytes_11 (lv_at hl 5 rfl) ?_
        refine lv_iload_n hx hb dX12_sameBytes_13 rfl (lv_at hl 2 rfl) ?_
        refine lv_icmp_ge (tgt := 41) hx hb dX12_sameBytes_14 (by decide) (fun c14 => ?_) (fun c14 => ?_)
        · replace hr := iteT c14 hr
          refine lv_iconst (v := 1) hx hb dX12_sameBytes_41 (by decide +kernel) ?_
          exact K 42 ls _ H _ hr (by decide) dX12_sameBytes_42 hP hD hS
        · replace hr := iteF c14 hr
          refine lv_aload_n hx hb dX12_sameBytes_17 rfl (lv_at hl 0 rfl) ?_
          refine lv_iload_n hx hb dX12_sameBytes_18 rfl (lv_at hl 1 rfl) ?_
          refine lv_iload hx hb dX12_sameBytes_19 (lv_at hl 5 rfl) ?_
          refine lv_iadd hx hb dX12_sameBytes_21 ?_
          replace hr := iteS hr
          obtain ⟨hi22, hr⟩ := hr
          refine va_bald (f := (F 40)) hx hb hK hP 25 0 rfl rfl (inbV hi22) dX12_sameBytes_22 ?_
          refine lv_aload_n hx hb dX12_sameBytes_23 rfl (lv_at hl 3 rfl) ?_
          refine lv_iload hx hb dX12_sameBytes_24 (lv_at hl 4 rfl) ?_
          refine lv_iload hx hb dX12_sameBytes_26 (lv_at hl 5 rfl) ?_
          refine lv_iadd hx hb dX12_sameBytes_28 ?_
          replace hr := iteS hr
          obtain ⟨hi29, hr⟩ := hr
          refine va_bald (f := (F 32)) hx hb hK hP 21 0 rfl rfl (inbV hi29) dX12_sameBytes_29 ?_
          refine lv_icmp_eq (tgt := 35) hx hb dX12_sameBytes_30 (by decide) (fun c30 => ?_) (fun c30 => ?_)
          · replace hr := iteT c30 hr
            refine lv_iinc (v := (y11_6 + 1)) (lv' := [(6, .int (y11_6 + 1)), (0, .ref (q 40)), (1, .int p1), (2, .int p2), (3, .ref (q 32)), (4, .int p4)]) hx hb dX12_sameBytes_35 hl (k := 5) rfl rfl (by decide) rfl (fun ls hl => ?_)
            refine lv_goto (tgt := 11) hx hb dX12_sameBytes_38 (by decide) ?_
            exact ih11 (y11_6 + 1) H _ ls hr hP hD hS (lv_sub hl [1, 2, 3, 4, 5, 0] rfl)
          · replace hr := iteF c30 hr
            refine lv_iconst (v := 0) hx hb dX12_sameBytes_33 (by decide +kernel) ?_
            exact K 34 ls _ H _ hr (by decide) dX12_sameBytes_34 hP hD hS
    exact lp11 NN 0 H _ ls hr hP hD hS (lv_sub hl [1, 2, 3, 4, 5, 0] rfl)
  · replace hr := iteF c3 hr
    refine lv_iconst (v := 0) hx hb dX12_sameBytes_6 (by decide +kernel) ?_
    exact K 7 ls _ H _ hr (by decide) dX12_sameBytes_7 hP hD hS
set_option maxHeartbeats 4000000 in
set_option maxRecDepth 100000 in
theorem m_sameBytes_40_32 (l : Launch) (dC : Nat → ClassId) (dI : Nat → Nat → Nat) (sz : Nat) (h0 : Nat) (kB kI kZ : ClassId) (q : Nat → Nat) (g : Nat → Int32) (F : Nat → Nat → Int32) (p1 : Int32) (p2 : Int32) (p4 : Int32) (p5 : Int32) (r : Int32) (hr : f_sameBytes (F 40) 288 p1 p2 (F 32) 720 p4 p5 = some r) : Met l yX12_sameBytes vmX12_sameBytes ({ frames := 2, cells := 0, slots := 0, locals := 60 } : Room) (va_Pc [.ref (q 40), .int p1, .int p2, .ref (q 32), .int p4, .int p5] (fun U => U.heap.size = sz ∧ va_P (dC, dI) vwCl (mW h0 kB kI kZ q g F) U.heap ∧ va_K (dC, dI) vwCl (mT kB kI kZ) U ∧ va_D (fun _ => True) (mW h0 kB kI kZ q g F))) (va_Qi (fun (rz : Int32) (_ : Unit) => rz = r) (fun _ t => va_P (dC, dI) vwCl (mW h0 kB kI kZ q g F) t.heap ∧ va_K (dC, dI) vwCl (mT kB kI kZ) t ∧ va_D (va_A (mW h0 kB kI kZ q g F) sz) (mW h0 kB kI kZ q g F)) (va_A (mW h0 kB kI kZ q g F) sz)) 0 0 (va_A (mW h0 kB kI kZ q g F) sz) := by
  refine Met.ofW (cc := cX12_sameBytes) (maxL := 7) (ret := (some .boolean)) (by decide) rfl ?_
  intro p e s m args below meth c s₁ B hml hv
  obtain ⟨rfl, hsz, hP, hK, hD0⟩ := hv
  have hx := B.exec
  have hb := B.bytes
  have hrt := B.returns
  have hts := atoms_spec (ws := vmX12_sameBytes) B.pre
  have hown : s.vm.findClass RX12 = some m.cls := findClass_of_methodNamed B.named
  subst hsz
  have hD := hD0.self (sz := s.heap.size)
  generalize hAe : va_A (mW h0 kB kI kZ q g F) s.heap.size = A at hD ⊢
  have hA : ∀ q : Nat, s.heap.size ≤ q → A q := fun q h => by rw [← hAe]; exact Or.inr h
  have hS : va_S A s.heap s.heap [] := va_S.rf
  have hl := lv_entry ([.ref (q 40), .int p1, .int p2, .ref (q 32), .int p4, .int p5]) (n := 7) (Nat.le_of_ble_eq_true rfl)
  rw [lg_entry_eq]
  generalize (lg_sl ([.ref (q 40), .int p1, .int p2, .ref (q 32), .int p4, .int p5]) ++ List.replicate (7 - (lg_sl ([.ref (q 40), .int p1, .int p2, .ref (q 32), .int p4, .int p5])).length) Slot.unset).toArray = ls at hl ⊢
  exact bm_sameBytes_40_32 p1 p2 p4 p5 r hr hx hb hml hown hts hA hK hP hD hS hl (fun pc ls rz H locs he hz hd hP hD hS => by cases he; exact W.zret (v := r) hx hb hrt (z_nb hz) (fun t ht hW => ⟨⟨r, (), rfl, rfl, by rw [ht]; exact hP, va_K.moved hW.alike hK, hD⟩, hS.F ht⟩) hS.2.2 hd)
set_option maxHeartbeats 4000000 in
set_option maxRecDepth 100000 in
theorem bm_through {p : Program} {l : Launch} {e : Env} {s : State} {m : MethodId} {args : Array Value} {below : List Frame} {meth : Method} {c : Code} {Q : State → Prop} {A : Nat → Prop} {dC : Nat → ClassId} {dI : Nat → Nat → Nat} {h0 : Nat} {kB kI kZ : ClassId} {q : Nat → Nat} {g : Nat → Int32} {F : Nat → Nat → Int32} {H : Heap} {locs : List Loc} {ls : Array Slot} (p0 : Int32) (p1 : Int32) (c_g23 : Int32) (c_g27 : Int32) (c_g30 : Int32) (c_g34 : Int32) (c_g36 : Int32) (c_g39 : Int32) (c_F22 : (Nat → Int32)) (c_F24 : (Nat → Int32)) (c_F25 : (Nat → Int32)) (c_F26 : (Nat → Int32)) (c_F28 : (Nat → Int32)) (c_F29 : (Nat → Int32)) (c_F31 : (Nat → Int32)) (c_F32 : (Nat → Int32)) (c_F33 : (Nat → Int32)) (c_F37 : (Nat → Int32)) (c_F38 : (Nat → Int32)) (c_F40 : (Nat → Int32)) (c_F41 : (Nat → Int32)) (hr : f_through g F p0 p1 = some (c_g23, c_g27, c_g30, c_g34, c_g36, c_g39, c_F22, c_F24, c_F25, c_F26, c_F28, c_F29, c_F31, c_F32, c_F33, c_F37, c_F38, c_F40, c_F41)) (hx : p.tables.exec = Jvm.exec) (hb : c.code = cX12_through) (hml : c.maxLocals = 9) (hown : s.vm.findClass RX12 = some m.cls) (hts : ∀ w ∈ vmX12_through, w.before args s = true) (hA : ∀ q : Nat, s.heap.size ≤ q → A q) (hK : va_K (dC, dI) vwCl (mT kB kI kZ) s) (hP : va_P (dC, dI) vwCl (mW h0 kB kI kZ q g F) H) (hD : va_D A (mW h0 kB kI kZ q g F)) (hS : va_S A s.heap H locs) (hl : lv_has ls 9 [(0, .ref h0), (1, .int p0), (2, .int p1)])
    (K : ∀ (pc : Nat) (ls : Array Slot) (c_g23z : Int32) (c_g27z : Int32) (c_g30z : Int32) (c_g34z : Int32) (c_g36z : Int32) (c_g39z : Int32) (c_F22z : (Nat → Int32)) (c_F24z : (Nat → Int32)) (c_F25z : (Nat → Int32)) (c_F26z : (Nat → Int32)) (c_F28z : (Nat → Int32)) (c_F29z : (Nat → Int32)) (c_F31z : (Nat → Int32)) (c_F32z : (Nat → Int32)) (c_F33z : (Nat → Int32)) (c_F37z : (Nat → Int32)) (c_F38z : (Nat → Int32)) (c_F40z : (Nat → Int32)) (c_F41z : (Nat → Int32)) (H : Heap) (locs : List Loc), some (c_g23z, c_g27z, c_g30z, c_g34z, c_g36z, c_g39z, c_F22z, c_F24z, c_F25z, c_F26z, c_F28z, c_F29z, c_F31z, c_F32z, c_F33z, c_F37z, c_F38z, c_F40z, c_F41z) = some (c_g23, c_g27, c_g30, c_g34, c_g36, c_g39, c_F22, c_F24, c_F25, c_F26, c_F28, c_F29, c_F31, c_F32, c_F33, c_F37, c_F38, c_F40, c_F41) → decode cX12_through pc = .ok (.return_, 1) → va_P (dC, dI) vwCl (mW h0 kB kI kZ q (upd (upd (upd (upd (upd (upd g 23 c_g23z) 27 c_g27z) 30 c_g30z) 34 c_g34z) 36 c_g36z) 39 c_g39z) (upF (upF (upF (upF (upF (upF (upF (upF (upF (upF (upF (upF (upF F 22 c_F22z) 24 c_F24z) 25 c_F25z) 26 c_F26z) 28 c_F28z) 29 c_F29z) 31 c_F31z) 32 c_F32z) 33 c_F33z) 37 c_F37z) 38 c_F38z) 40 c_F40z) 41 c_F41z)) H → va_D A (mW h0 kB kI kZ q (upd (upd (upd (upd (upd (upd g 23 c_g23z) 27 c_g27z) 30 c_g30z) 34 c_g34z) 36 c_g36z) 39 c_g39z) (upF (upF (upF (upF (upF (upF (upF (upF (upF (upF (upF (upF (upF F 22 c_F22z) 24 c_F24z) 25 c_F25z) 26 c_F26z) 28 c_F28z) 29 c_F29z) 31 c_F31z) 32 c_F32z) 33 c_F33z) 37 c_F37z) 38 c_F38z) 40 c_F40z) 41 c_F41z)) → va_S A s.heap H locs → W p l e ({ frames := 46, cells := 0, slots := 0, locals := 1118 } : Room) s m args below meth c H locs 0 0 Q (F0 m pc ls [])) : W p l e ({ frames := 46, cells := 0, slots := 0, locals := 1118 } : Room) s m args below meth c H locs 0 0 Q (F0 m 0 ls []) := by
  unfold f_through at hr
  refine lv_iconst (v := 0) hx hb dX12_through_0 (by decide +kernel) ?_
  refine lv_istore_n (lv' := [(3, .int 0), (0, .ref h0), (1, .int p0), (2, .int p1)]) hx hb dX12_through_1 rfl hl (by decide) rfl (fun ls hl => ?_)
  replace hr := jnS hr
  obtain ⟨k28, hk28, hr⟩ := hr
  have Jk28 : ∀ (c28_F37 : (Nat → Int32)) (H : Heap) (locs : List Loc) (ls : Array Slot), k28 c28_F37 = some (c_g23, c_g27, c_g30, c_g34, c_g36, c_g39, c_F22, c_F24, c_F25, c_F26, c_F28, c_F29, c_F31, c_F32, c_F33, c_F37, c_F38, c_F40, c_F41) → va_P (dC, dI) vwCl (mW h0 kB kI kZ q g (upF F 37 c28_F37)) H → va_D A (mW h0 kB kI kZ q g (upF F 37 c28_F37)) → va_S A s.heap H locs → lv_has ls 9 [(0, .ref h0), (1, .int p0), (2, .int p1)] → W p l e ({ frames := 46, cells := 0, slots := 0, locals := 1118 } : Room) s m args below meth c H locs 0 0 Q (F0 m 28 ls []) := by
    intro c28_F37 H locs ls hr hP hD hS hl
    rw [hk28] at hr
    refine lv_aload_n hx hb dX12_through_28 rfl (lv_at hl 0 rfl) ?_
    refine va_get (D := (dC, dI)) (ci := 12) (v := .ref (q 38)) (C := RX12) (T := TX12) (N := 71) hx hb hts inX12 hown hK hP 0 rfl rfl 38 (by decide) (hts (.fieldLink RX12 85 "SpellTurnerModel" "nowSize" "[I") im_175) (fun _ h9 => h9) rfl dX12_through_29 ?_
    refine lv_iconst (v := 0) hx hb dX12_through_32 (by decide +kernel) ?_
    refine lv_aload_n hx hb dX12_through_33 rfl (lv_at hl 0 rfl) ?_
    refine va_get (D := (dC, dI)) (ci := 12) (v := .int (g 23)) (C := RX12) (T := TX12) (N := 71) hx hb hts inX12 hown hK hP 0 rfl rfl 23 (by decide) (hts (.fieldLink RX12 244 "SpellTurnerModel" "letters" "I") im_49) (fun _ h9 => h9) rfl dX12_through_34 ?_
    replace hr := iteS hr
    obtain ⟨hi37, hr⟩ := hr
    refine va_iast (f := (F 38)) hx hb hK hP hD hS 24 1 rfl rfl (inbV hi37) dX12_through_37 (fun H locs hP hD hS => ?_)
    obtain ⟨w37, ew37, hP, hD⟩ : ∃ w37 : Nat → Int32, w37 = (upd (F 38) (Int32.toNatClampNeg 0) (g 23)) ∧ va_P (dC, dI) vwCl (mW h0 kB kI kZ q g (upF (upF F 37 c28_F37) 38 w37)) H ∧ va_D A (mW h0 kB kI kZ q g (upF (upF F 37 c28_F37) 38 w37)) := ⟨(upd (F 38) (Int32.toNatClampNeg 0) (g 23)), rfl, by first | exact sP_F38 hP rfl | exact sP_F38 hP upF_same | exact hP, by first | exact sD_F38 hD rfl | exact sD_F38 hD upF_same | exact hD⟩
    replace hr := vlS hr w37 ew37
    clear ew37
    refine lv_aload_n hx hb dX12_through_38 rfl (lv_at hl 0 rfl) ?_
    refine lv_iconst (v := 1) hx hb dX12_through_39 (by decide +kernel) ?_
    refine va_put (D := (dC, dI)) (ci := 12) (v := .int 1) (ty := .int) (C := RX12) (T := TX12) (N := 71) hx hb hts inX12 tyX12 tyX12_ok nmX12 hown hK hP hD hS 0 rfl rfl 39 (by decide) (hts (.fieldLink RX12 287 "SpellTurnerModel" "nows" "I") im_176) (fun _ h9 => h9) rfl (by decide +kernel) rfl rfl (Nat.le_of_ble_eq_true rfl) dX12_through_40 (fun H locs hP hD hS => ?_)
    have hP : va_P (dC, dI) vwCl (mW h0 kB kI kZ q (upd g 39 1) (upF (upF F 37 c28_F37) 38 w37)) H := by first | exact sP_g39 hP rfl | exact sP_g39 hP upd_same | exact hP
    have hD : va_D A (mW h0 kB kI kZ q (upd g 39 1) (upF (upF F 37 c28_F37) 38 w37)) := by first | exact sD_g39 hD rfl | exact sD_g39 hD upd_same | exact hD
    refine lv_iload_n hx hb dX12_through_43 rfl (lv_at hl 1 rfl) ?_
    refine lv_istore_n (lv' := [(3, .int p0), (0, .ref h0), (1, .int p0), (2, .int p1)]) hx hb dX12_through_44 rfl hl (by decide) rfl (fun ls hl => ?_)
    have lp45 : ∀ (n45 : Nat) (y45_3 : Int32) (d45_g23 : Int32) (d45_g27 : Int32) (d45_g30 : Int32) (d45_g34 : Int32) (d45_g36 : Int32) (d45_g39 : Int32) (d45_F22 : (Nat → Int32)) (d45_F24 : (Nat → Int32)) (d45_F25 : (Nat → Int32)) (d45_F26 : (Nat → Int32)) (d45_F28 : (Nat → Int32)) (d45_F29 : (Nat → Int32)) (d45_F31 : (Nat → Int32)) (d45_F32 : (Nat → Int32)) (d45_F33 : (Nat → Int32)) (d45_F37 : (Nat → Int32)) (d45_F38 : (Nat → Int32)) (d45_F40 : (Nat → Int32)) (d45_F41 : (Nat → Int32)) (H : Heap) (locs : List Loc) (ls : Array Slot), L_through_45 g F p1 n45 y45_3 d45_g23 d45_g27 d45_g30 d45_g34 d45_g36 d45_g39 d45_F22 d45_F24 d45_F25 d45_F26 d45_F28 d45_F29 d45_F31 d45_F32 d45_F33 d45_F37 d45_F38 d45_F40 d45_F41 = some (c_g23, c_g27, c_g30, c_g34, c_g36, c_g39, c_F22, c_F24, c_F25, c_F26, c_F28, c_F29, c_F31, c_F32, c_F33, c_F37, c_F38, c_F40, c_F41) → va_P (dC, dI) vwCl (mW h0 kB kI kZ q (upd (upd (upd (upd (upd (upd g 23 d45_g23) 27 d45_g27) 30 d45_g30) 34 d45_g34) 36 d45_g36) 39 d45_g39) (upF (upF (upF (upF (upF (upF (upF (upF (upF (upF (upF (upF (upF F 22 d45_F22) 24 d45_F24) 25 d45_F25) 26 d45_F26) 28 d45_F28) 29 d45_F29) 31 d45_F31) 32 d45_F32) 33 d45_F33) 37 d45_F37) 38 d45_F38) 40 d45_F40) 41 d45_F41)) H → va_D A (mW h0 kB kI kZ q (upd (upd (upd (upd (upd (upd g 23 d45_g23) 27 d45_g27) 30 d45_g30) 34 d45_g34) 36 d45_g36) 39 d45_g39) (upF (upF (upF (upF (upF (upF (upF (upF (upF (upF (upF (upF (upF F 22 d45_F22) 24 d45_F24) 25 d45_F25) 26 d45_F26) 28 d45_F28) 29 d45_F29) 31 d45_F31) 32 d45_F32) 33 d45_F33) 37 d45_F37) 38 d45_F38) 40 d45_F40) 41 d45_F41)) → va_S A s.heap H locs → lv_has ls 9 [(0, .ref h0), (2, .int p1), (3, .int y45_3)] → W p l e ({ frames := 46, cells := 0, slots := 0, locals := 1118 } : Room) s m args below meth c H locs 0 0 Q (F0 m 45 ls []) := by
      intro n45
      induction n45 with
      | zero => intro y45_3 d45_g23 d45_g27 d45_g30 d45_g34 d45_g36 d45_g39 d45_F22 d45_F24 d45_F25 d45_F26 d45_F28 d45_F29 d45_F31 d45_F32 d45_F33 d45_F37 d45_F38 d45_F40 d45_F41 H locs ls hr; exact nomatch (show none = some (c_g23, c_g27, c_g30, c_g34, c_g36, c_g39, c_F22, c_F24, c_F25, c_F26, c_F28, c_F29, c_F31, c_F32, c_F33, c_F37, c_F38, c_F40, c_F41) from hr)
      | succ n45 ih45 =>
        intro y45_3 d45_g23 d45_g27 d45_g30 d45_g34 d45_g36 d45_g39 d45_F22 d45_F24 d45_F25 d45_F26 d45_F28 d45_F29 d45_F31 d45_F32 d45_F33 d45_F37 d45_F38 d45_F40 d45_F41 H locs ls hr hP hD hS hl
        replace hr : B_through_45 g F p1 (L_through_45 g F p1 n45) y45_3 d45_g23 d45_g27 d45_g30 d45_g34 d45_g36 d45_g39 d45_F22 d45_F24 d45_F25 d45_F26 d45_F28 d45_F29 d45_F31 d45_F32 d45_F33 d45_F37 d45_F38 d45_F40 d45_F41 = some (c_g23, c_g27, c_g30, c_g34, c_g36, c_g39, c_F22, c_F24, c_F25, c_F26, c_F28, c_F29, c_F31, c_F32, c_F33, c_F37, c_F38, c_F40, c_F41) := hr
        unfold B_through_45 at hr
        refine lv_iload_n hx hb dX12_through_45 rfl (lv_at hl 2 rfl) ?_
        refine lv_iload_n hx hb dX12_through_46 rfl (lv_at hl 1 rfl) ?_
        refine lv_icmp_ge (tgt := 351) hx hb dX12_through_47 (by decide) (fun c47 => ?_) (fun c47 => ?_)
        · replace hr := iteT c47 hr
          first | exact K 351 ls _ _ _ _ _ _ _ _ _ _ _ _ _ _ _ _ _ _ _ H _ hr dX12_through_351 (sP_eq (mW_cg (by repeat (first | with_reducible rfl | with_reducible refine upd_cg ?_ | refine Eq.trans ?_ (upd_id rfl))) (by repeat (first | with_reducible rfl | with_reducible refine upF_cg ?_ | refine Eq.trans ?_ (upF_id rfl)))) hP) (sD_eq (mW_cg (by repeat (first | with_reducible rfl | with_reducible refine upd_cg ?_ | refine Eq.trans ?_ (upd_id rfl))) (by repeat (first | with_reducible rfl | with_reducible refine upF_cg ?_ | refine Eq.trans ?_ (upF_id rfl)))) hD) hS | exact K 351 ls _ _ _ _ _ _ _ _ _ _ _ _ _ _ _ _ _ _ _ H _ hr dX12_through_351 hP hD hS
        · replace hr := iteF c47 hr
          refine lv_iconst (v := 0) hx hb dX12_through_50 (by decide +kernel) ?_
          refine lv_istore (lv' := [(4, .int 0), (0, .ref h0), (2, .int p1), (3, .int y45_3)]) hx hb dX12_through_51 hl (by decide) rfl (fun ls hl => ?_)
          refine lv_iconst (v := 0) hx hb dX12_through_53 (by decide +kernel) ?_
          refine lv_istore (lv' := [(5, .int 0), (4, .int 0), (0, .ref h0), (2, .int p1), (3, .int y45_3)]) hx hb dX12_through_54 hl (by decide) rfl (fun ls hl => ?_)
          replace hr := jnS hr
          obtain ⟨k262, hk262, hr⟩ := hr
          have Jk262 : ∀ (x262_4 : Int32) (c262_g23 : Int32) (c262_g27 : Int32) (c262_g30 : Int32) (c262_g34 : Int32) (c262_g36 : Int32) (c262_F22 : (Nat → Int32)) (c262_F24 : (Nat → Int32)) (c262_F25 : (Nat → Int32)) (c262_F26 : (Nat → Int32)) (c262_F28 : (Nat → Int32)) (c262_F29 : (Nat → Int32)) (c262_F31 : (Nat → Int32)) (c262_F32 : (Nat → Int32)) (c262_F33 : (Nat → Int32)) (c262_F40 : (Nat → Int32)) (c262_F41 : (Nat → Int32)) (H : Heap) (locs : List Loc) (ls : Array Slot), k262 x262_4 c262_g23 c262_g27 c262_g30 c262_g34 c262_g36 c262_F22 c262_F24 c262_F25 c262_F26 c262_F28 c262_F29 c262_F31 c262_F32 c262_F33 c262_F40 c262_F41 = some (c_g23, c_g27, c_g30, c_g34, c_g36, c_g39, c_F22, c_F24, c_F25, c_F26, c_F28, c_F29, c_F31, c_F32, c_F33, c_F37, c_F38, c_F40, c_F41) → va_P (dC, dI) vwCl (mW h0 kB kI kZ q (upd (upd (upd (upd (upd (upd g 23 c262_g23) 27 c262_g27) 30 c262_g30) 34 c262_g34) 36 c262_g36) 39 d45_g39) (upF (upF (upF (upF (upF (upF (upF (upF (upF (upF (upF (upF (upF F 22 c262_F22) 24 c262_F24) 25 c262_F25) 26 c262_F26) 28 c262_F28) 29 c262_F29) 31 c262_F31) 32 c262_F32) 33 c262_F33) 37 d45_F37) 38 d45_F38) 40 c262_F40) 41 c262_F41)) H → va_D A (mW h0 kB kI kZ q (upd (upd (upd (upd (upd (upd g 23 c262_g23) 27 c262_g27) 30 c262_g30) 34 c262_g34) 36 c262_g36) 39 d45_g39) (upF (upF (upF (upF (upF (upF (upF (upF (upF (upF (upF (upF (upF F 22 c262_F22) 24 c262_F24) 25 c262_F25) 26 c262_F26) 28 c262_F28) 29 c262_F29) 31 c262_F31) 32 c262_F32) 33 c262_F33) 37 d45_F37) 38 d45_F38) 40 c262_F40) 41 c262_F41)) → va_S A s.heap H locs → lv_has ls 9 [(0, .ref h0), (2, .int p1), (3, .int y45_3), (4, .int x262_4)] → W p l e ({ frames := 46, cells := 0, slots := 0, locals := 1118 } : Room) s m args below meth c H locs 0 0 Q (F0 m 262 ls []) := by
            intro x262_4 c262_g23 c262_g27 c262_g30 c262_g34 c262_g36 c262_F22 c262_F24 c262_F25 c262_F26 c262_F28 c262_F29 c262_F31 c262_F32 c262_F33 c262_F40 c262_F41 H locs ls hr hP hD hS hl
            rw [hk262] at hr
            refine lv_aload_n hx hb dX12_through_262 rfl (lv_at hl 0 rfl) ?_
            refine lv_iload hx hb dX12_through_263 (lv_at hl 3 rfl) ?_
            refine va_put (D := (dC, dI)) (ci := 12) (v := .int x262_4) (ty := .int) (C := RX12) (T := TX12) (N := 71) hx hb hts inX12 tyX12 tyX12_ok nmX12 hown hK hP hD hS 0 rfl rfl 39 (by decide) (hts (.fieldLink RX12 287 "SpellTurnerModel" "nows" "I") im_176) (fun _ h9 => h9) rfl (by decide +kernel) rfl rfl (Nat.le_of_ble_eq_true rfl) dX12_through_265 (fun H locs hP hD hS => ?_)
            have hP : va_P (dC, dI) vwCl (mW h0 kB kI kZ q (upd (upd (upd (upd (upd (upd g 23 c262_g23) 27 c262_g27) 30 c262_g30) 34 c262_g34) 36 c262_g36) 39 x262_4) (upF (upF (upF (upF (upF (upF (upF (upF (upF (upF (upF (upF (upF F 22 c262_F22) 24 c262_F24) 25 c262_F25) 26 c262_F26) 28 c262_F28) 29 c262_F29) 31 c262_F31) 32 c262_F32) 33 c262_F33) 37 d45_F37) 38 d45_F38) 40 c262_F40) 41 c262_F41)) H := by first | exact sP_g39 hP upd_same | exact sP_g39 hP rfl | exact hP
            have hD : va_D A (mW h0 kB kI kZ q (upd (upd (upd (upd (upd (upd g 23 c262_g23) 27 c262_g27) 30 c262_g30) 34 c262_g34) 36 c262_g36) 39 x262_4) (upF (upF (upF (upF (upF (upF (upF (upF (upF (upF (upF (upF (upF F 22 c262_F22) 24 c262_F24) 25 c262_F25) 26 c262_F26) 28 c262_F28) 29 c262_F29) 31 c262_F31) 32 c262_F32) 33 c262_F33) 37 d45_F37) 38 d45_F38) 40 c262_F40) 41 c262_F41)) := by first | exact sD_g39 hD upd_same | exact sD_g39 hD rfl | exact hD
            refine lv_iconst (v := 0) hx hb dX12_through_268 (by decide +kernel) ?_
            refine lv_istore (lv' := [(5, .int 0), (0, .ref h0), (2, .int p1), (3, .int y45_3), (4, .int x262_4)]) hx hb dX12_through_269 hl (by decide) rfl (fun ls hl => ?_)
            replace hr := jnS hr
            obtain ⟨k345, hk345, hr⟩ := hr
            have Jk345 : ∀ (c345_F37 : (Nat → Int32)) (c345_F38 : (Nat → Int32)) (H : Heap) (locs : List Loc) (ls : Array Slot), k345 c345_F37 c345_F38 = some (c_g23, c_g27, c_g30, c_g34, c_g36, c_g39, c_F22, c_F24, c_F25, c_F26, c_F28, c_F29, c_F31, c_F32, c_F33, c_F37, c_F38, c_F40, c_F41) → va_P (dC, dI) vwCl (mW h0 kB kI kZ q (upd (upd (upd (upd (upd (upd g 23 c262_g23) 27 c262_g27) 30 c262_g30) 34 c262_g34) 36 c262_g36) 39 x262_4) (upF (upF (upF (upF (upF (upF (upF (upF (upF (upF (upF (upF (upF F 22 c262_F22) 24 c262_F24) 25 c262_F25) 26 c262_F26) 28 c262_F28) 29 c262_F29) 31 c262_F31) 32 c262_F32) 33 c262_F33) 37 c345_F37) 38 c345_F38) 40 c262_F40) 41 c262_F41)) H → va_D A (mW h0 kB kI kZ q (upd (upd (upd (upd (upd (upd g 23 c262_g23) 27 c262_g27) 30 c262_g30) 34 c262_g34) 36 c262_g36) 39 x262_4) (upF (upF (upF (upF (upF (upF (upF (upF (upF (upF (upF (upF (upF F 22 c262_F22) 24 c262_F24) 25 c262_F25) 26 c262_F26) 28 c262_F28) 29 c262_F29) 31 c262_F31) 32 c262_F32) 33 c262_F33) 37 c345_F37) 38 c345_F38) 40 c262_F40) 41 c262_F41)) → va_S A s.heap H locs → lv_has ls 9 [(0, .ref h0), (2, .int p1), (3, .int y45_3)] → W p l e ({ frames := 46, cells := 0, slots := 0, locals := 1118 } : Room) s m args below meth c H locs 0 0 Q (F0 m 345 ls []) := by
              intro c345_F37 c345_F38 H locs ls hr hP hD hS hl
              rw [hk345] at hr
              refine lv_iinc (v := (y45_3 + 1)) (lv' := [(3, .int (y45_3 + 1)), (0, .ref h0), (2, .int p1)]) hx hb dX12_through_345 hl (k := 2) rfl rfl (by decide) rfl (fun ls hl => ?_)
              refine lv_goto (tgt := 45) hx hb dX12_through_348 (by decide) ?_
              exact ih45 (y45_3 + 1) c262_g23 c262_g27 c262_g30 c262_g34 c262_g36 x262_4 c262_F22 c262_F24 c262_F25 c262_F26 c262_F28 c262_F29 c262_F31 c262_F32 c262_F33 c345_F37 c345_F38 c262_F40 c262_F41 H _ ls hr hP hD hS (lv_sub hl [1, 2, 0] rfl)
            have lp271 : ∀ (n271 : Nat) (y271_5 : Int32) (d271_F37 : (Nat → Int32)) (d271_F38 : (Nat → Int32)) (H : Heap) (locs : List Loc) (ls : Array Slot), L_through_271 x262_4 c262_F40 c262_F41 k345 n271 y271_5 d271_F37 d271_F38 = some (c_g23, c_g27, c_g30, c_g34, c_g36, c_g39, c_F22, c_F24, c_F25, c_F26, c_F28, c_F29, c_F31, c_F32, c_F33, c_F37, c_F38, c_F40, c_F41) → va_P (dC, dI) vwCl (mW h0 kB kI kZ q (upd (upd (upd (upd (upd (upd g 23 c262_g23) 27 c262_g27) 30 c262_g30) 34 c262_g34) 36 c262_g36) 39 x262_4) (upF (upF (upF (upF (upF (upF (upF (upF (upF (upF (upF (upF (upF F 22 c262_F22) 24 c262_F24) 25 c262_F25) 26 c262_F26) 28 c262_F28) 29 c262_F29) 31 c262_F31) 32 c262_F32) 33 c262_F33) 37 d271_F37) 38 d271_F38) 40 c262_F40) 41 c262_F41)) H → va_D A (mW h0 kB kI kZ q (upd (upd (upd (upd (upd (upd g 23 c262_g23) 27 c262_g27) 30 c262_g30) 34 c262_g34) 36 c262_g36) 39 x262_4) (upF (upF (upF (upF (upF (upF (upF (upF (upF (upF (upF (upF (upF F 22 c262_F22) 24 c262_F24) 25 c262_F25) 26 c262_F26) 28 c262_F28) 29 c262_F29) 31 c262_F31) 32 c262_F32) 33 c262_F33) 37 d271_F37) 38 d271_F38) 40 c262_F40) 41 c262_F41)) → va_S A s.heap H locs → lv_has ls 9 [(0, .ref h0), (2, .int p1), (3, .int y45_3), (4, .int x262_4), (5, .int y271_5)] → W p l e ({ frames := 46, cells := 0, slots := 0, locals := 1118 } : Room) s m args below meth c H locs 0 0 Q (F0 m 271 ls []) := by
              intro n271
              induction n271 with
              | zero => intro y271_5 d271_F37 d271_F38 H locs ls hr; exact nomatch (show none = some (c_g23, c_g27, c_g30, c_g34, c_g36, c_g39, c_F22, c_F24, c_F25, c_F26, c_F28, c_F29, c_F31, c_F32, c_F33, c_F37, c_F38, c_F40, c_F41) from hr)
              | succ n271 ih271 =>
                intro y271_5 d271_F37 d271_F38 H locs ls hr hP hD hS hl
                replace hr : B_through_271 x262_4 c262_F40 c262_F41 k345 (L_through_271 x262_4 c262_F40 c262_F41 k345 n271) y271_5 d271_F37 d271_F38 = some (c_g23, c_g27, c_g30, c_g34, c_g36, c_g39, c_F22, c_F24, c_F25, c_F26, c_F28, c_F29, c_F31, c_F32, c_F33, c_F37, c_F38, c_F40, c_F41) := hr
                unfold B_through_271 at hr
                refine lv_iload hx hb dX12_through_271 (lv_at hl 4 rfl) ?_
                refine lv_iload hx hb dX12_through_273 (lv_at hl 3 rfl) ?_
                refine lv_icmp_ge (tgt := 345) hx hb dX12_through_275 (by decide) (fun c275 => ?_) (fun c275 => ?_)
                · replace hr := iteT c275 hr
                  exact Jk345 d271_F37 d271_F38 H _ ls hr hP hD hS (lv_sub hl [0, 1, 2] rfl)
                · replace hr := iteF c275 hr
                  refine lv_aload_n hx hb dX12_through_278 rfl (lv_at hl 0 rfl) ?_
                  refine va_get (D := (dC, dI)) (ci := 12) (v := .ref (q 38)) (C := RX12) (T := TX12) (N := 71) hx hb hts inX12 hown hK hP 0 rfl rfl 38 (by decide) (hts (.fieldLink RX12 85 "SpellTurnerModel" "nowSize" "[I") im_175) (fun _ h9 => h9) rfl dX12_through_279 ?_
                  refine lv_iload hx hb dX12_through_282 (lv_at hl 4 rfl) ?_
                  refine lv_aload_n hx hb dX12_through_284 rfl (lv_at hl 0 rfl) ?_
                  refine va_get (D := (dC, dI)) (ci := 12) (v := .ref (q 41)) (C := RX12) (T := TX12) (N := 71) hx hb hts inX12 hown hK hP 0 rfl rfl 41 (by decide) (hts (.fieldLink RX12 91 "SpellTurnerModel" "nextSize" "[I") im_177) (fun _ h9 => h9) rfl dX12_through_285 ?_
                  refine lv_iload hx hb dX12_through_288 (lv_at hl 4 rfl) ?_
                  replace hr := iteS hr
                  obtain ⟨hi290, hr⟩ := hr
                  refine va_iald (f := c262_F41) hx hb hK hP 26 1 rfl rfl (inbV hi290) dX12_through_290 ?_
                  replace hr := iteS hr
                  obtain ⟨hi291, hr⟩ := hr
                  refine va_iast (f := d271_F38) hx hb hK hP hD hS 24 1 rfl rfl (inbV hi291) dX12_through_291 (fun H locs hP hD hS => ?_)
                  obtain ⟨w291, ew291, hP, hD⟩ : ∃ w291 : Nat → Int32, w291 = (upd d271_F38 (Int32.toNatClampNeg y271_5) (c262_F41 (Int32.toNatClampNeg y271_5))) ∧ va_P (dC, dI) vwCl (mW h0 kB kI kZ q (upd (upd (upd (upd (upd (upd g 23 c262_g23) 27 c262_g27) 30 c262_g30) 34 c262_g34) 36 c262_g36) 39 x262_4) (upF (upF (upF (upF (upF (upF (upF (upF (upF (upF (upF (upF (upF F 22 c262_F22) 24 c262_F24) 25 c262_F25) 26 c262_F26) 28 c262_F28) 29 c262_F29) 31 c262_F31) 32 c262_F32) 33 c262_F33) 37 d271_F37) 38 w291) 40 c262_F40) 41 c262_F41)) H ∧ va_D A (mW h0 kB kI kZ q (upd (upd (upd (upd (upd (upd g 23 c262_g23) 27 c262_g27) 30 c262_g30) 34 c262_g34) 36 c262_g36) 39 x262_4) (upF (upF (upF (upF (upF (upF (upF (upF (upF (upF (upF (upF (upF F 22 c262_F22) 24 c262_F24) 25 c262_F25) 26 c262_F26) 28 c262_F28) 29 c262_F29) 31 c262_F31) 32 c262_F32) 33 c262_F33) 37 d271_F37) 38 w291) 40 c262_F40) 41 c262_F41)) := ⟨(upd d271_F38 (Int32.toNatClampNeg y271_5) (c262_F41 (Int32.toNatClampNeg y271_5))), rfl, by first | exact sP_F38 hP (upF_in (by decide) (upF_in (by decide) upF_same)) | exact sP_F38 hP (upF_in (by decide) (upF_in (by decide) rfl)) | exact hP, by first | exact sD_F38 hD (upF_in (by decide) (upF_in (by decide) upF_same)) | exact sD_F38 hD (upF_in (by decide) (upF_in (by decide) rfl)) | exact hD⟩
                  replace hr := vlS hr w291 ew291
                  clear ew291
                  refine lv_iconst (v := 0) hx hb dX12_through_292 (by decide +kernel) ?_
                  refine lv_istore (lv' := [(6, .int 0), (0, .ref h0), (2, .int p1), (3, .int y45_3), (4, .int x262_4), (5, .int y271_5)]) hx hb dX12_through_293 hl (by decide) rfl (fun ls hl => ?_)
                  replace hr := jnS hr
                  obtain ⟨k339, hk339, hr⟩ := hr
                  have Jk339 : ∀ (c339_F37 : (Nat → Int32)) (H : Heap) (locs : List Loc) (ls : Array Slot), k339 c339_F37 = some (c_g23, c_g27, c_g30, c_g34, c_g36, c_g39, c_F22, c_F24, c_F25, c_F26, c_F28, c_F29, c_F31, c_F32, c_F33, c_F37, c_F38, c_F40, c_F41) → va_P (dC, dI) vwCl (mW h0 kB kI kZ q (upd (upd (upd (upd (upd (upd g 23 c262_g23) 27 c262_g27) 30 c262_g30) 34 c262_g34) 36 c262_g36) 39 x262_4) (upF (upF (upF (upF (upF (upF (upF (upF (upF (upF (upF (upF (upF F 22 c262_F22) 24 c262_F24) 25 c262_F25) 26 c262_F26) 28 c262_F28) 29 c262_F29) 31 c262_F31) 32 c262_F32) 33 c262_F33) 37 c339_F37) 38 w291) 40 c262_F40) 41 c262_F41)) H → va_D A (mW h0 kB kI kZ q (upd (upd (upd (upd (upd (upd g 23 c262_g23) 27 c262_g27) 30 c262_g30) 34 c262_g34) 36 c262_g36) 39 x262_4) (upF (upF (upF (upF (upF (upF (upF (upF (upF (upF (upF (upF (upF F 22 c262_F22) 24 c262_F24) 25 c262_F25) 26 c262_F26) 28 c262_F28) 29 c262_F29) 31 c262_F31) 32 c262_F32) 33 c262_F33) 37 c339_F37) 38 w291) 40 c262_F40) 41 c262_F41)) → va_S A s.heap H locs → lv_has ls 9 [(0, .ref h0), (2, .int p1), (3, .int y45_3), (4, .int x262_4), (5, .int y271_5)] → W p l e ({ frames := 46, cells := 0, slots := 0, locals := 1118 } : Room) s m args below meth c H locs 0 0 Q (F0 m 339 ls []) := by
                    intro c339_F37 H locs ls hr hP hD hS hl
                    rw [hk339] at hr
                    refine lv_iinc (v := (y271_5 + 1)) (lv' := [(5, .int (y271_5 + 1)), (0, .ref h0), (2, .int p1), (3, .int y45_3), (4, .int x262_4)]) hx hb dX12_through_339 hl (k := 4) rfl rfl (by decide) rfl (fun ls hl => ?_)
                    refine lv_goto (tgt := 271) hx hb dX12_through_342 (by decide) ?_
                    exact ih271 (y271_5 + 1) c339_F37 w291 H _ ls hr hP hD hS (lv_sub hl [1, 2, 3, 4, 0] rfl)
                  have lp295 : ∀ (n295 : Nat) (y295_6 : Int32) (d295_F37 : (Nat → Int32)) (H : Heap) (locs : List Loc) (ls : Array Slot), L_through_295 c262_F40 c262_F41 y271_5 k339 n295 y295_6 d295_F37 = some (c_g23, c_g27, c_g30, c_g34, c_g36, c_g39, c_F22, c_F24, c_F25, c_F26, c_F28, c_F29, c_F31, c_F32, c_F33, c_F37, c_F38, c_F40, c_F41) → va_P (dC, dI) vwCl (mW h0 kB kI kZ q (upd (upd (upd (upd (upd (upd g 23 c262_g23) 27 c262_g27) 30 c262_g30) 34 c262_g34) 36 c262_g36) 39 x262_4) (upF (upF (upF (upF (upF (upF (upF (upF (upF (upF (upF (upF (upF F 22 c262_F22) 24 c262_F24) 25 c262_F25) 26 c262_F26) 28 c262_F28) 29 c262_F29) 31 c262_F31) 32 c262_F32) 33 c262_F33) 37 d295_F37) 38 w291) 40 c262_F40) 41 c262_F41)) H → va_D A (mW h0 kB kI kZ q (upd (upd (upd (upd (upd (upd g 23 c262_g23) 27 c262_g27) 30 c262_g30) 34 c262_g34) 36 c262_g36) 39 x262_4) (upF (upF (upF (upF (upF (upF (upF (upF (upF (upF (upF (upF (upF F 22 c262_F22) 24 c262_F24) 25 c262_F25) 26 c262_F26) 28 c262_F28) 29 c262_F29) 31 c262_F31) 32 c262_F32) 33 c262_F33) 37 d295_F37) 38 w291) 40 c262_F40) 41 c262_F41)) → va_S A s.heap H locs → lv_has ls 9 [(0, .ref h0), (2, .int p1), (3, .int y45_3), (4, .int x262_4), (5, .int y271_5), (6, .int y295_6)] → W p l e ({ frames := 46, cells := 0, slots := 0, locals := 1118 } : Room) s m args below meth c H locs 0 0 Q (F0 m 295 ls []) := by
                    intro n295
                    induction n295 with
                    | zero => intro y295_6 d295_F37 H locs ls hr; exact nomatch (show none = some (c_g23, c_g27, c_g30, c_g34, c_g36, c_g39, c_F22, c_F24, c_F25, c_F26, c_F28, c_F29, c_F31, c_F32, c_F33, c_F37, c_F38, c_F40, c_F41) from hr)
                    | succ n295 ih295 =>
                      intro y295_6 d295_F37 H locs ls hr hP hD hS hl
                      replace hr : B_through_295 c262_F40 c262_F41 y271_5 k339 (L_through_295 c262_F40 c262_F41 y271_5 k339 n295) y295_6 d295_F37 = some (c_g23, c_g27, c_g30, c_g34, c_g36, c_g39, c_F22, c_F24, c_F25, c_F26, c_F28, c_F29, c_F31, c_F32, c_F33, c_F37, c_F38, c_F40, c_F41) := hr
                      unfold B_through_295 at hr
                      refine lv_iload hx hb dX12_through_295 (lv_at hl 5 rfl) ?_
                      refine lv_aload_n hx hb dX12_through_297 rfl (lv_at hl 0 rfl) ?_
                      refine va_get (D := (dC, dI)) (ci := 12) (v := .ref (q 41)) (C := RX12) (T := TX12) (N := 71) hx hb hts inX12 hown hK hP 0 rfl rfl 41 (by decide) (hts (.fieldLink RX12 91 "SpellTurnerModel" "nextSize" "[I") im_177) (fun _ h9 => h9) rfl dX12_through_298 ?_
                      refine lv_iload hx hb dX12_through_301 (lv_at hl 4 rfl) ?_
                      replace hr := iteS hr
                      obtain ⟨hi303, hr⟩ := hr
                      refine va_iald (f := c262_F41) hx hb hK hP 26 1 rfl rfl (inbV hi303) dX12_through_303 ?_
                      refine lv_icmp_ge (tgt := 339) hx hb dX12_through_304 (by decide) (fun c304 => ?_) (fun c304 => ?_)
                      · replace hr := iteT c304 hr
                        exact Jk339 d295_F37 H _ ls hr hP hD hS (lv_sub hl [0, 1, 2, 3, 4] rfl)
                      · replace hr := iteF c304 hr
                        refine lv_aload_n hx hb dX12_through_307 rfl (lv_at hl 0 rfl) ?_
                        refine va_get (D := (dC, dI)) (ci := 12) (v := .ref (q 37)) (C := RX12) (T := TX12) (N := 71) hx hb hts inX12 hown hK hP 0 rfl rfl 37 (by decide) (hts (.fieldLink RX12 82 "SpellTurnerModel" "now" "[B") im_178) (fun _ h9 => h9) rfl dX12_through_308 ?_
                        refine lv_bipush (v := 24) hx hb dX12_through_311 (by decide +kernel) ?_
                        refine lv_iload hx hb dX12_through_313 (lv_at hl 4 rfl) ?_
                        refine lv_imul hx hb dX12_through_315 ?_
                        refine lv_iload hx hb dX12_through_316 (lv_at hl 5 rfl) ?_
                        refine lv_iadd hx hb dX12_through_318 ?_
                        refine lv_aload_n hx hb dX12_through_319 rfl (lv_at hl 0 rfl) ?_
                        refine va_get (D := (dC, dI)) (ci := 12) (v := .ref (q 40)) (C := RX12) (T := TX12) (N := 71) hx hb hts inX12 hown hK hP 0 rfl rfl 40 (by decide) (hts (.fieldLink RX12 88 "SpellTurnerModel" "next" "[B") im_179) (fun _ h9 => h9) rfl dX12_through_320 ?_
                        refine lv_bipush (v := 24) hx hb dX12_through_323 (by decide +kernel) ?_
                        refine lv_iload hx hb dX12_through_325 (lv_at hl 4 rfl) ?_
                        refine lv_imul hx hb dX12_through_327 ?_
                        refine lv_iload hx hb dX12_through_328 (lv_at hl 5 rfl) ?_
                        refine lv_iadd hx hb dX12_through_330 ?_
                        replace hr := iteS hr
                        obtain ⟨hi331, hr⟩ := hr
                        refine va_bald (f := c262_F40) hx hb hK hP 25 0 rfl rfl (inbV hi331) dX12_through_331 ?_
                        replace hr := iteS hr
                        obtain ⟨hi332, hr⟩ := hr
                        refine va_bast (f := d295_F37) hx hb hK hP hD hS 23 0 rfl rfl (inbV hi332) dX12_through_332 (fun H locs hP hD hS => ?_)
                        obtain ⟨w332, ew332, hP, hD⟩ : ∃ w332 : Nat → Int32, w332 = (upd d295_F37 (Int32.toNatClampNeg ((24 * y271_5) + y295_6)) (vp_nar .byte (c262_F40 (Int32.toNatClampNeg ((24 * y271_5) + y295_6))))) ∧ va_P (dC, dI) vwCl (mW h0 kB kI kZ q (upd (upd (upd (upd (upd (upd g 23 c262_g23) 27 c262_g27) 30 c262_g30) 34 c262_g34) 36 c262_g36) 39 x262_4) (upF (upF (upF (upF (upF (upF (upF (upF (upF (upF (upF (upF (upF F 22 c262_F22) 24 c262_F24) 25 c262_F25) 26 c262_F26) 28 c262_F28) 29 c262_F29) 31 c262_F31) 32 c262_F32) 33 c262_F33) 37 w332) 38 w291) 40 c262_F40) 41 c262_F41)) H ∧ va_D A (mW h0 kB kI kZ q (upd (upd (upd (upd (upd (upd g 23 c262_g23) 27 c262_g27) 30 c262_g30) 34 c262_g34) 36 c262_g36) 39 x262_4) (upF (upF (upF (upF (upF (upF (upF (upF (upF (upF (upF (upF (upF F 22 c262_F22) 24 c262_F24) 25 c262_F25) 26 c262_F26) 28 c262_F28) 29 c262_F29) 31 c262_F31) 32 c262_F32) 33 c262_F33) 37 w332) 38 w291) 40 c262_F40) 41 c262_F41)) := ⟨(upd d295_F37 (Int32.toNatClampNeg ((24 * y271_5) + y295_6)) (vp_nar .byte (c262_F40 (Int32.toNatClampNeg ((24 * y271_5) + y295_6))))), rfl, by first | exact sP_F37 hP (upF_in (by decide) (upF_in (by decide) (upF_in (by decide) upF_same))) | exact sP_F37 hP (upF_in (by decide) (upF_in (by decide) (upF_in (by decide) rfl))) | exact hP, by first | exact sD_F37 hD (upF_in (by decide) (upF_in (by decide) (upF_in (by decide) upF_same))) | exact sD_F37 hD (upF_in (by decide) (upF_in (by decide) (upF_in (by decide) rfl))) | exact hD⟩
                        replace hr := vlS hr w332 ew332
                        clear ew332
                        refine lv_iinc (v := (y295_6 + 1)) (lv' := [(6, .int (y295_6 + 1)), (0, .ref h0), (2, .int p1), (3, .int y45_3), (4, .int x262_4), (5, .int y271_5)]) hx hb dX12_through_333 hl (k := 5) rfl rfl (by decide) rfl (fun ls hl => ?_)
                        refine lv_goto (tgt := 295) hx hb dX12_through_336 (by decide) ?_
                        exact ih295 (y295_6 + 1) w332 H _ ls hr hP hD hS (lv_sub hl [1, 2, 3, 4, 5, 0] rfl)
                  exact lp295 NN 0 d271_F37 H _ ls hr hP hD hS (lv_sub hl [1, 2, 3, 4, 5, 0] rfl)
            exact lp271 NN 0 d45_F37 d45_F38 H _ ls hr hP hD hS (lv_sub hl [1, 2, 3, 4, 0] rfl)
          have lp56 : ∀ (n56 : Nat) (y56_4 : Int32) (y56_5 : Int32) (d56_g23 : Int32) (d56_g27 : Int32) (d56_g30 : Int32) (d56_g34 : Int32) (d56_g36 : Int32) (d56_F22 : (Nat → Int32)) (d56_F24 : (Nat → Int32)) (d56_F25 : (Nat → Int32)) (d56_F26 : (Nat → Int32)) (d56_F28 : (Nat → Int32)) (d56_F29 : (Nat → Int32)) (d56_F31 : (Nat → Int32)) (d56_F32 : (Nat → Int32)) (d56_F33 : (Nat → Int32)) (d56_F40 : (Nat → Int32)) (d56_F41 : (Nat → Int32)) (H : Heap) (locs : List Loc) (ls : Array Slot), L_through_56 g F y45_3 d45_g39 d45_F37 d45_F38 k262 n56 y56_4 y56_5 d56_g23 d56_g27 d56_g30 d56_g34 d56_g36 d56_F22 d56_F24 d56_F25 d56_F26 d56_F28 d56_F29 d56_F31 d56_F32 d56_F33 d56_F40 d56_F41 = some (c_g23, c_g27, c_g30, c_g34, c_g36, c_g39, c_F22, c_F24, c_F25, c_F26, c_F28, c_F29, c_F31, c_F32, c_F33, c_F37, c_F38, c_F40, c_F41) → va_P (dC, dI) vwCl (mW h0 kB kI kZ q (upd (upd (upd (upd (upd (upd g 23 d56_g23) 27 d56_g27) 30 d56_g30) 34 d56_g34) 36 d56_g36) 39 d45_g39) (upF (upF (upF (upF (upF (upF (upF (upF (upF (upF (upF (upF (upF F 22 d56_F22) 24 d56_F24) 25 d56_F25) 26 d56_F26) 28 d56_F28) 29 d56_F29) 31 d56_F31) 32 d56_F32) 33 d56_F33) 37 d45_F37) 38 d45_F38) 40 d56_F40) 41 d56_F41)) H → va_D A (mW h0 kB kI kZ q (upd (upd (upd (upd (upd (upd g 23 d56_g23) 27 d56_g27) 30 d56_g30) 34 d56_g34) 36 d56_g36) 39 d45_g39) (upF (upF (upF (upF (upF (upF (upF (upF (upF (upF (upF (upF (upF F 22 d56_F22) 24 d56_F24) 25 d56_F25) 26 d56_F26) 28 d56_F28) 29 d56_F29) 31 d56_F31) 32 d56_F32) 33 d56_F33) 37 d45_F37) 38 d45_F38) 40 d56_F40) 41 d56_F41)) → va_S A s.heap H locs → lv_has ls 9 [(0, .ref h0), (2, .int p1), (3, .int y45_3), (4, .int y56_4), (5, .int y56_5)] → W p l e ({ frames := 46, cells := 0, slots := 0, locals := 1118 } : Room) s m args below meth c H locs 0 0 Q (F0 m 56 ls []) := by
            intro n56
            induction n56 with
            | zero => intro y56_4 y56_5 d56_g23 d56_g27 d56_g30 d56_g34 d56_g36 d56_F22 d56_F24 d56_F25 d56_F26 d56_F28 d56_F29 d56_F31 d56_F32 d56_F33 d56_F40 d56_F41 H locs ls hr; exact nomatch (show none = some (c_g23, c_g27, c_g30, c_g34, c_g36, c_g39, c_F22, c_F24, c_F25, c_F26, c_F28, c_F29, c_F31, c_F32, c_F33, c_F37, c_F38, c_F40, c_F41) from hr)
            | succ n56 ih56 =>
              intro y56_4 y56_5 d56_g23 d56_g27 d56_g30 d56_g34 d56_g36 d56_F22 d56_F24 d56_F25 d56_F26 d56_F28 d56_F29 d56_F31 d56_F32 d56_F33 d56_F40 d56_F41 H locs ls hr hP hD hS hl
              replace hr : B_through_56 g F y45_3 d45_g39 d45_F37 d45_F38 k262 (L_through_56 g F y45_3 d45_g39 d45_F37 d45_F38 k262 n56) y56_4 y56_5 d56_g23 d56_g27 d56_g30 d56_g34 d56_g36 d56_F22 d56_F24 d56_F25 d56_F26 d56_F28 d56_F29 d56_F31 d56_F32 d56_F33 d56_F40 d56_F41 = some (c_g23, c_g27, c_g30, c_g34, c_g36, c_g39, c_F22, c_F24, c_F25, c_F26, c_F28, c_F29, c_F31, c_F32, c_F33, c_F37, c_F38, c_F40, c_F41) := hr
              unfold B_through_56 at hr
              refine lv_iload hx hb dX12_through_56 (lv_at hl 4 rfl) ?_
              refine lv_aload_n hx hb dX12_through_58 rfl (lv_at hl 0 rfl) ?_
              refine va_get (D := (dC, dI)) (ci := 12) (v := .int d45_g39) (C := RX12) (T := TX12) (N := 71) hx hb hts inX12 hown hK hP 0 rfl rfl 39 (by decide) (hts (.fieldLink RX12 287 "SpellTurnerModel" "nows" "I") im_176) (fun _ h9 => h9) rfl dX12_through_59 ?_
              refine lv_icmp_ge (tgt := 262) hx hb dX12_through_62 (by decide) (fun c62 => ?_) (fun c62 => ?_)
              · replace hr := iteT c62 hr
                exact Jk262 y56_4 d56_g23 d56_g27 d56_g30 d56_g34 d56_g36 d56_F22 d56_F24 d56_F25 d56_F26 d56_F28 d56_F29 d56_F31 d56_F32 d56_F33 d56_F40 d56_F41 H _ ls hr hP hD hS (lv_sub hl [0, 1, 2, 3] rfl)
              · replace hr := iteF c62 hr
                refine lv_aload_n hx hb dX12_through_65 rfl (lv_at hl 0 rfl) ?_
                refine lv_aload_n hx hb dX12_through_66 rfl (lv_at hl 0 rfl) ?_
                refine va_get (D := (dC, dI)) (ci := 12) (v := .ref (q 37)) (C := RX12) (T := TX12) (N := 71) hx hb hts inX12 hown hK hP 0 rfl rfl 37 (by decide) (hts (.fieldLink RX12 82 "SpellTurnerModel" "now" "[B") im_178) (fun _ h9 => h9) rfl dX12_through_67 ?_
                refine lv_bipush (v := 24) hx hb dX12_through_70 (by decide +kernel) ?_
                refine lv_iload hx hb dX12_through_72 (lv_at hl 4 rfl) ?_
                refine lv_imul hx hb dX12_through_74 ?_
                refine lv_aload_n hx hb dX12_through_75 rfl (lv_at hl 0 rfl) ?_
                refine va_get (D := (dC, dI)) (ci := 12) (v := .ref (q 38)) (C := RX12) (T := TX12) (N := 71) hx hb hts inX12 hown hK hP 0 rfl rfl 38 (by decide) (hts (.fieldLink RX12 85 "SpellTurnerModel" "nowSize" "[I") im_175) (fun _ h9 => h9) rfl dX12_through_76 ?_
                refine lv_iload hx hb dX12_through_79 (lv_at hl 4 rfl) ?_
                replace hr := iteS hr
                obtain ⟨hi81, hr⟩ := hr
                refine va_iald (f := d45_F38) hx hb hK hP 24 1 rfl rfl (inbV hi81) dX12_through_81 ?_
                replace hr := b2S hr
                obtain ⟨c82_g23, c82_F22, hc82, hr⟩ := hr
                have hFc := fr_all hD hS hA
                refine va_callv (va_runV (As := [.ref (q 37), .int (24 * y56_5), .int (d45_F38 (Int32.toNatClampNeg y56_5))]) (rest := []) ⟨hx, hb, hml, hown, hts⟩ (m_takeWord_37 l dC dI H.size h0 kB kI kZ q (upd (upd (upd (upd (upd (upd g 23 d56_g23) 27 d56_g27) 30 d56_g30) 34 d56_g34) 36 d56_g36) 39 d45_g39) (upF (upF (upF (upF (upF (upF (upF (upF (upF (upF (upF (upF (upF F 22 d56_F22) 24 d56_F24) 25 d56_F25) 26 d56_F26) 28 d56_F28) 29 d56_F29) 31 d56_F31) 32 d56_F32) 33 d56_F33) 37 d45_F37) 38 d45_F38) 40 d56_F40) 41 d56_F41) (24 * y56_5) (d45_F38 (Int32.toNatClampNeg y56_5)) c82_g23 c82_F22 hc82) (cwV 3 hts gw_X12_takeWord_290 rfl rfl rfl (by decide +kernel) ⟨Nat.le_of_ble_eq_true rfl, Nat.le_of_ble_eq_true rfl⟩) ⟨fun a U g mk q => by obtain ⟨q0, q1, qP, qK, qD⟩ := q; exact ⟨q0, q1, qP, va_K.moved (u := U) (U := U.calling g mk a) (Vm.Alike.refl U.vm) qK, qD⟩, va_recv hK hP (ci := 12) (q0 := 0) rfl rfl, fun U hU hW => ⟨rfl, by rw [hU], by rw [hU]; exact hP, va_K.moved hW.alike hK, hD.weaken (fun _ _ _ _ => trivial)⟩⟩ rfl rfl hl.1 rfl (lv_room (Nat.le_of_ble_eq_true rfl)) dX12_through_82 ⟨Nat.le_of_ble_eq_true rfl, Nat.le_of_ble_eq_true rfl⟩) hS (fun q _ h => hFc q h) hFc (fun u t H1 locs ht hvm hw hB hz1 hk1 hS => ?_)
                obtain ⟨hP1, hK1, hD1⟩ := hB
                rw [ht] at hP1
                obtain ⟨hP, hD⟩ := jn_all (w1 := (mW h0 kB kI kZ q (upd (upd (upd (upd (upd (upd g 23 c82_g23) 27 d56_g27) 30 d56_g30) 34 d56_g34) 36 d56_g36) 39 d45_g39) (upF (upF (upF (upF (upF (upF (upF (upF (upF (upF (upF (upF (upF F 22 c82_F22) 24 d56_F24) 25 d56_F25) 26 d56_F26) 28 d56_F28) 29 d56_F29) 31 d56_F31) 32 d56_F32) 33 d56_F33) 37 d45_F37) 38 d45_F38) 40 d56_F40) 41 d56_F41))) hFc hP1 hD1
                clear hFc hP1 hK1 hD1 hk1 hz1 ht hvm
                generalize H1 = H at hP hS ⊢
                have hP : va_P (dC, dI) vwCl (mW h0 kB kI kZ q (upd (upd (upd (upd (upd (upd g 23 c82_g23) 27 d56_g27) 30 d56_g30) 34 d56_g34) 36 d56_g36) 39 d45_g39) (upF (upF (upF (upF (upF (upF (upF (upF (upF (upF (upF (upF (upF F 22 c82_F22) 24 d56_F24) 25 d56_F25) 26 d56_F26) 28 d56_F28) 29 d56_F29) 31 d56_F31) 32 d56_F32) 33 d56_F33) 37 d45_F37) 38 d45_F38) 40 d56_F40) 41 d56_F41)) H := hP
                have hD : va_D A (mW h0 kB kI kZ q (upd (upd (upd (upd (upd (upd g 23 c82_g23) 27 d56_g27) 30 d56_g30) 34 d56_g34) 36 d56_g36) 39 d45_g39) (upF (upF (upF (upF (upF (upF (upF (upF (upF (upF (upF (upF (upF F 22 c82_F22) 24 d56_F24) 25 d56_F25) 26 d56_F26) 28 d56_F28) 29 d56_F29) 31 d56_F31) 32 d56_F32) 33 d56_F33) 37 d45_F37) 38 d45_F38) 40 d56_F40) 41 d56_F41)) := hD
                refine lv_aload_n hx hb dX12_through_85 rfl (lv_at hl 0 rfl) ?_
                refine lv_iload_n hx hb dX12_through_86 rfl (lv_at hl 2 rfl) ?_
                replace hr := b12S hr
                obtain ⟨c87_g27, c87_g30, c87_g34, c87_g36, c87_F24, c87_F25, c87_F26, c87_F28, c87_F29, c87_F31, c87_F32, c87_F33, hc87, hr⟩ := hr
                have hFc := fr_all hD hS hA
                refine va_callv (va_runV (As := [.int y45_3]) (rest := []) ⟨hx, hb, hml, hown, hts⟩ (m_turnBy l dC dI H.size h0 kB kI kZ q (upd (upd (upd (upd (upd (upd g 23 c82_g23) 27 d56_g27) 30 d56_g30) 34 d56_g34) 36 d56_g36) 39 d45_g39) (upF (upF (upF (upF (upF (upF (upF (upF (upF (upF (upF (upF (upF F 22 c82_F22) 24 d56_F24) 25 d56_F25) 26 d56_F26) 28 d56_F28) 29 d56_F29) 31 d56_F31) 32 d56_F32) 33 d56_F33) 37 d45_F37) 38 d45_F38) 40 d56_F40) 41 d56_F41) y45_3 c87_g27 c87_g30 c87_g34 c87_g36 c87_F24 c87_F25 c87_F26 c87_F28 c87_F29 c87_F31 c87_F32 c87_F33 hc87) (cwV 1 hts gw_X12_turnBy_294 rfl rfl rfl (by decide +kernel) ⟨Nat.le_of_ble_eq_true rfl, Nat.le_of_ble_eq_true rfl⟩) ⟨fun a U g mk q => by obtain ⟨q0, q1, qP, qK, qD⟩ := q; exact ⟨q0, q1, qP, va_K.moved (u := U) (U := U.calling g mk a) (Vm.Alike.refl U.vm) qK, qD⟩, va_recv hK hP (ci := 12) (q0 := 0) rfl rfl, fun U hU hW => ⟨rfl, by rw [hU], by rw [hU]; exact hP, va_K.moved hW.alike hK, hD.weaken (fun _ _ _ _ => trivial)⟩⟩ rfl rfl hl.1 rfl (lv_room (Nat.le_of_ble_eq_true rfl)) dX12_through_87 ⟨Nat.le_of_ble_eq_true rfl, Nat.le_of_ble_eq_true rfl⟩) hS (fun q _ h => hFc q h) hFc (fun u t H1 locs ht hvm hw hB hz1 hk1 hS => ?_)
                obtain ⟨hP1, hK1, hD1⟩ := hB
                rw [ht] at hP1
                obtain ⟨hP, hD⟩ := jn_all (w1 := (mW h0 kB kI kZ q (upd (upd (upd (upd (upd (upd g 23 c82_g23) 27 c87_g27) 30 c87_g30) 34 c87_g34) 36 c87_g36) 39 d45_g39) (upF (upF (upF (upF (upF (upF (upF (upF (upF (upF (upF (upF (upF F 22 c82_F22) 24 c87_F24) 25 c87_F25) 26 c87_F26) 28 c87_F28) 29 c87_F29) 31 c87_F31) 32 c87_F32) 33 c87_F33) 37 d45_F37) 38 d45_F38) 40 d56_F40) 41 d56_F41))) hFc hP1 hD1
                clear hFc hP1 hK1 hD1 hk1 hz1 ht hvm
                generalize H1 = H at hP hS ⊢
                have hP : va_P (dC, dI) vwCl (mW h0 kB kI kZ q (upd (upd (upd (upd (upd (upd g 23 c82_g23) 27 c87_g27) 30 c87_g30) 34 c87_g34) 36 c87_g36) 39 d45_g39) (upF (upF (upF (upF (upF (upF (upF (upF (upF (upF (upF (upF (upF F 22 c82_F22) 24 c87_F24) 25 c87_F25) 26 c87_F26) 28 c87_F28) 29 c87_F29) 31 c87_F31) 32 c87_F32) 33 c87_F33) 37 d45_F37) 38 d45_F38) 40 d56_F40) 41 d56_F41)) H := hP
                have hD : va_D A (mW h0 kB kI kZ q (upd (upd (upd (upd (upd (upd g 23 c82_g23) 27 c87_g27) 30 c87_g30) 34 c87_g34) 36 c87_g36) 39 d45_g39) (upF (upF (upF (upF (upF (upF (upF (upF (upF (upF (upF (upF (upF F 22 c82_F22) 24 c87_F24) 25 c87_F25) 26 c87_F26) 28 c87_F28) 29 c87_F29) 31 c87_F31) 32 c87_F32) 33 c87_F33) 37 d45_F37) 38 d45_F38) 40 d56_F40) 41 d56_F41)) := hD
                refine lv_iconst (v := 0) hx hb dX12_through_90 (by decide +kernel) ?_
                refine lv_istore (lv' := [(6, .int 0), (0, .ref h0), (2, .int p1), (3, .int y45_3), (4, .int y56_4), (5, .int y56_5)]) hx hb dX12_through_91 hl (by decide) rfl (fun ls hl => ?_)
                replace hr := jnS hr
                obtain ⟨k256, hk256, hr⟩ := hr
                have Jk256 : ∀ (x256_4 : Int32) (c256_F40 : (Nat → Int32)) (c256_F41 : (Nat → Int32)) (H : Heap) (locs : List Loc) (ls : Array Slot), k256 x256_4 c256_F40 c256_F41 = some (c_g23, c_g27, c_g30, c_g34, c_g36, c_g39, c_F22, c_F24, c_F25, c_F26, c_F28, c_F29, c_F31, c_F32, c_F33, c_F37, c_F38, c_F40, c_F41) → va_P (dC, dI) vwCl (mW h0 kB kI kZ q (upd (upd (upd (upd (upd (upd g 23 c82_g23) 27 c87_g27) 30 c87_g30) 34 c87_g34) 36 c87_g36) 39 d45_g39) (upF (upF (upF (upF (upF (upF (upF (upF (upF (upF (upF (upF (upF F 22 c82_F22) 24 c87_F24) 25 c87_F25) 26 c87_F26) 28 c87_F28) 29 c87_F29) 31 c87_F31) 32 c87_F32) 33 c87_F33) 37 d45_F37) 38 d45_F38) 40 c256_F40) 41 c256_F41)) H → va_D A (mW h0 kB kI kZ q (upd (upd (upd (upd (upd (upd g 23 c82_g23) 27 c87_g27) 30 c87_g30) 34 c87_g34) 36 c87_g36) 39 d45_g39) (upF (upF (upF (upF (upF (upF (upF (upF (upF (upF (upF (upF (upF F 22 c82_F22) 24 c87_F24) 25 c87_F25) 26 c87_F26) 28 c87_F28) 29 c87_F29) 31 c87_F31) 32 c87_F32) 33 c87_F33) 37 d45_F37) 38 d45_F38) 40 c256_F40) 41 c256_F41)) → va_S A s.heap H locs → lv_has ls 9 [(0, .ref h0), (2, .int p1), (3, .int y45_3), (4, .int x256_4), (5, .int y56_5)] → W p l e ({ frames := 46, cells := 0, slots := 0, locals := 1118 } : Room) s m args below meth c H locs 0 0 Q (F0 m 256 ls []) := by
                  intro x256_4 c256_F40 c256_F41 H locs ls hr hP hD hS hl
                  rw [hk256] at hr
                  refine lv_iinc (v := (y56_5 + 1)) (lv' := [(5, .int (y56_5 + 1)), (0, .ref h0), (2, .int p1), (3, .int y45_3), (4, .int x256_4)]) hx hb dX12_through_256 hl (k := 4) rfl rfl (by decide) rfl (fun ls hl => ?_)
                  refine lv_goto (tgt := 56) hx hb dX12_through_259 (by decide) ?_
                  exact ih56 x256_4 (y56_5 + 1) c82_g23 c87_g27 c87_g30 c87_g34 c87_g36 c82_F22 c87_F24 c87_F25 c87_F26 c87_F28 c87_F29 c87_F31 c87_F32 c87_F33 c256_F40 c256_F41 H _ ls hr hP hD hS (lv_sub hl [1, 2, 3, 4, 0] rfl)
                have lp93 : ∀ (n93 : Nat) (y93_4 : Int32) (y93_6 : Int32) (d93_F40 : (Nat → Int32)) (d93_F41 : (Nat → Int32)) (H : Heap) (locs : List Loc) (ls : Array Slot), L_through_93 c87_g34 c87_F32 c87_F33 k256 n93 y93_4 y93_6 d93_F40 d93_F41 = some (c_g23, c_g27, c_g30, c_g34, c_g36, c_g39, c_F22, c_F24, c_F25, c_F26, c_F28, c_F29, c_F31, c_F32, c_F33, c_F37, c_F38, c_F40, c_F41) → va_P (dC, dI) vwCl (mW h0 kB kI kZ q (upd (upd (upd (upd (upd (upd g 23 c82_g23) 27 c87_g27) 30 c87_g30) 34 c87_g34) 36 c87_g36) 39 d45_g39) (upF (upF (upF (upF (upF (upF (upF (upF (upF (upF (upF (upF (upF F 22 c82_F22) 24 c87_F24) 25 c87_F25) 26 c87_F26) 28 c87_F28) 29 c87_F29) 31 c87_F31) 32 c87_F32) 33 c87_F33) 37 d45_F37) 38 d45_F38) 40 d93_F40) 41 d93_F41)) H → va_D A (mW h0 kB kI kZ q (upd (upd (upd (upd (upd (upd g 23 c82_g23) 27 c87_g27) 30 c87_g30) 34 c87_g34) 36 c87_g36) 39 d45_g39) (upF (upF (upF (upF (upF (upF (upF (upF (upF (upF (upF (upF (upF F 22 c82_F22) 24 c87_F24) 25 c87_F25) 26 c87_F26) 28 c87_F28) 29 c87_F29) 31 c87_F31) 32 c87_F32) 33 c87_F33) 37 d45_F37) 38 d45_F38) 40 d93_F40) 41 d93_F41)) → va_S A s.heap H locs → lv_has ls 9 [(0, .ref h0), (2, .int p1), (3, .int y45_3), (4, .int y93_4), (5, .int y56_5), (6, .int y93_6)] → W p l e ({ frames := 46, cells := 0, slots := 0, locals := 1118 } : Room) s m args below meth c H locs 0 0 Q (F0 m 93 ls []) := by
                  intro n93
                  induction n93 with
                  | zero => intro y93_4 y93_6 d93_F40 d93_F41 H locs ls hr; exact nomatch (show none = some (c_g23, c_g27, c_g30, c_g34, c_g36, c_g39, c_F22, c_F24, c_F25, c_F26, c_F28, c_F29, c_F31, c_F32, c_F33, c_F37, c_F38, c_F40, c_F41) from hr)
                  | succ n93 ih93 =>
                    intro y93_4 y93_6 d93_F40 d93_F41 H locs ls hr hP hD hS hl
                    replace hr : B_through_93 c87_g34 c87_F32 c87_F33 k256 (L_through_93 c87_g34 c87_F32 c87_F33 k256 n93) y93_4 y93_6 d93_F40 d93_F41 = some (c_g23, c_g27, c_g30, c_g34, c_g36, c_g39, c_F22, c_F24, c_F25, c_F26, c_F28, c_F29, c_F31, c_F32, c_F33, c_F37, c_F38, c_F40, c_F41) := hr
                    unfold B_through_93 at hr
                    refine lv_iload hx hb dX12_through_93 (lv_at hl 5 rfl) ?_
                    refine lv_aload_n hx hb dX12_through_95 rfl (lv_at hl 0 rfl) ?_
                    refine va_get (D := (dC, dI)) (ci := 12) (v := .int c87_g34) (C := RX12) (T := TX12) (N := 71) hx hb hts inX12 hown hK hP 0 rfl rfl 34 (by decide) (hts (.fieldLink RX12 270 "SpellTurnerModel" "mades" "I") im_159) (fun _ h9 => h9) rfl dX12_through_96 ?_
                    refine lv_icmp_ge (tgt := 256) hx hb dX12_through_99 (by decide) (fun c99 => ?_) (fun c99 => ?_)
                    · replace hr := iteT c99 hr
                      exact Jk256 y93_4 d93_F40 d93_F41 H _ ls hr hP hD hS (lv_sub hl [0, 1, 2, 3, 4] rfl)
                    · replace hr := iteF c99 hr
                      refine lv_iload hx hb dX12_through_102 (lv_at hl 3 rfl) ?_
                      refine lv_bipush (v := 12) hx hb dX12_through_104 (by decide +kernel) ?_
                      refine lv_icmp_ge (tgt := 256) hx hb dX12_through_106 (by decide) (fun c106 => ?_) (fun c106 => ?_)
                      · replace hr := iteT c106 hr
                        exact Jk256 y93_4 d93_F40 d93_F41 H _ ls hr hP hD hS (lv_sub hl [0, 1, 2, 3, 4] rfl)
                      · replace hr := iteF c106 hr
                        refine lv_iconst (v := 1) hx hb dX12_through_109 (by decide +kernel) ?_
                        refine lv_istore (lv' := [(7, .int 1), (0, .ref h0), (2, .int p1), (3, .int y45_3), (4, .int y93_4), (5, .int y56_5), (6, .int y93_6)]) hx hb dX12_through_110 hl (by decide) rfl (fun ls hl => ?_)
                        refine lv_iconst (v := 0) hx hb dX12_through_112 (by decide +kernel) ?_
                        refine lv_istore (lv' := [(8, .int 0), (7, .int 1), (0, .ref h0), (2, .int p1), (3, .int y45_3), (4, .int y93_4), (5, .int y56_5), (6, .int y93_6)]) hx hb dX12_through_113 hl (by decide) rfl (fun ls hl => ?_)
                        replace hr := jnS hr
                        obtain ⟨k178, hk178, hr⟩ := hr
                        have Jk178 : ∀ (x178_7 : Int32) (H : Heap) (locs : List Loc) (ls : Array Slot), k178 x178_7 = some (c_g23, c_g27, c_g30, c_g34, c_g36, c_g39, c_F22, c_F24, c_F25, c_F26, c_F28, c_F29, c_F31, c_F32, c_F33, c_F37, c_F38, c_F40, c_F41) → va_P (dC, dI) vwCl (mW h0 kB kI kZ q (upd (upd (upd (upd (upd (upd g 23 c82_g23) 27 c87_g27) 30 c87_g30) 34 c87_g34) 36 c87_g36) 39 d45_g39) (upF (upF (upF (upF (upF (upF (upF (upF (upF (upF (upF (upF (upF F 22 c82_F22) 24 c87_F24) 25 c87_F25) 26 c87_F26) 28 c87_F28) 29 c87_F29) 31 c87_F31) 32 c87_F32) 33 c87_F33) 37 d45_F37) 38 d45_F38) 40 d93_F40) 41 d93_F41)) H → va_D A (mW h0 kB kI kZ q (upd (upd (upd (upd (upd (upd g 23 c82_g23) 27 c87_g27) 30 c87_g30) 34 c87_g34) 36 c87_g36) 39 d45_g39) (upF (upF (upF (upF (upF (upF (upF (upF (upF (upF (upF (upF (upF F 22 c82_F22) 24 c87_F24) 25 c87_F25) 26 c87_F26) 28 c87_F28) 29 c87_F29) 31 c87_F31) 32 c87_F32) 33 c87_F33) 37 d45_F37) 38 d45_F38) 40 d93_F40) 41 d93_F41)) → va_S A s.heap H locs → lv_has ls 9 [(0, .ref h0), (2, .int p1), (3, .int y45_3), (4, .int y93_4), (5, .int y56_5), (6, .int y93_6), (7, .int x178_7)] → W p l e ({ frames := 46, cells := 0, slots := 0, locals := 1118 } : Room) s m args below meth c H locs 0 0 Q (F0 m 178 ls []) := by
                          intro x178_7 H locs ls hr hP hD hS hl
                          rw [hk178] at hr
                          refine lv_iload hx hb dX12_through_178 (lv_at hl 6 rfl) ?_
                          replace hr := jnS hr
                          obtain ⟨j250, hj250, hr⟩ := hr
                          have Jj250 : ∀ (x250_4 : Int32) (c250_F40 : (Nat → Int32)) (c250_F41 : (Nat → Int32)) (H : Heap) (locs : List Loc) (ls : Array Slot), j250 x250_4 c250_F40 c250_F41 = some (c_g23, c_g27, c_g30, c_g34, c_g36, c_g39, c_F22, c_F24, c_F25, c_F26, c_F28, c_F29, c_F31, c_F32, c_F33, c_F37, c_F38, c_F40, c_F41) → va_P (dC, dI) vwCl (mW h0 kB kI kZ q (upd (upd (upd (upd (upd (upd g 23 c82_g23) 27 c87_g27) 30 c87_g30) 34 c87_g34) 36 c87_g36) 39 d45_g39) (upF (upF (upF (upF (upF (upF (upF (upF (upF (upF (upF (upF (upF F 22 c82_F22) 24 c87_F24) 25 c87_F25) 26 c87_F26) 28 c87_F28) 29 c87_F29) 31 c87_F31) 32 c87_F32) 33 c87_F33) 37 d45_F37) 38 d45_F38) 40 c250_F40) 41 c250_F41)) H → va_D A (mW h0 kB kI kZ q (upd (upd (upd (upd (upd (upd g 23 c82_g23) 27 c87_g27) 30 c87_g30) 34 c87_g34) 36 c87_g36) 39 d45_g39) (upF (upF (upF (upF (upF (upF (upF (upF (upF (upF (upF (upF (upF F 22 c82_F22) 24 c87_F24) 25 c87_F25) 26 c87_F26) 28 c87_F28) 29 c87_F29) 31 c87_F31) 32 c87_F32) 33 c87_F33) 37 d45_F37) 38 d45_F38) 40 c250_F40) 41 c250_F41)) → va_S A s.heap H locs → lv_has ls 9 [(0, .ref h0), (2, .int p1), (3, .int y45_3), (4, .int x250_4), (5, .int y56_5), (6, .int y93_6)] → W p l e ({ frames := 46, cells := 0, slots := 0, locals := 1118 } : Room) s m args below meth c H locs 0 0 Q (F0 m 250 ls []) := by
                            intro x250_4 c250_F40 c250_F41 H locs ls hr hP hD hS hl
                            rw [hj250] at hr
                            refine lv_iinc (v := (y93_6 + 1)) (lv' := [(6, .int (y93_6 + 1)), (0, .ref h0), (2, .int p1), (3, .int y45_3), (4, .int x250_4), (5, .int y56_5)]) hx hb dX12_through_250 hl (k := 5) rfl rfl (by decide) rfl (fun ls hl => ?_)
                            refine lv_goto (tgt := 93) hx hb dX12_through_253 (by decide) ?_
                            exact ih93 x250_4 (y93_6 + 1) c250_F40 c250_F41 H _ ls hr hP hD hS (lv_sub hl [1, 2, 3, 4, 5, 0] rfl)
                          refine lv_if_ne (tgt := 186) hx hb dX12_through_180 (by decide) (fun c180 => ?_) (fun c180 => ?_)
                          · replace hr := iteF c180 hr
                            refine lv_iconst (v := 0) hx hb dX12_through_186 (by decide +kernel) ?_
                            refine lv_istore (lv' := [(8, .int 0), (0, .ref h0), (2, .int p1), (3, .int y45_3), (4, .int y93_4), (5, .int y56_5), (6, .int y93_6), (7, .int x178_7)]) hx hb dX12_through_187 hl (by decide) rfl (fun ls hl => ?_)
                            replace hr := jnS hr
                            obtain ⟨k233, hk233, hr⟩ := hr
                            have Jk233 : ∀ (c233_F40 : (Nat → Int32)) (H : Heap) (locs : List Loc) (ls : Array Slot), k233 c233_F40 = some (c_g23, c_g27, c_g30, c_g34, c_g36, c_g39, c_F22, c_F24, c_F25, c_F26, c_F28, c_F29, c_F31, c_F32, c_F33, c_F37, c_F38, c_F40, c_F41) → va_P (dC, dI) vwCl (mW h0 kB kI kZ q (upd (upd (upd (upd (upd (upd g 23 c82_g23) 27 c87_g27) 30 c87_g30) 34 c87_g34) 36 c87_g36) 39 d45_g39) (upF (upF (upF (upF (upF (upF (upF (upF (upF (upF (upF (upF (upF F 22 c82_F22) 24 c87_F24) 25 c87_F25) 26 c87_F26) 28 c87_F28) 29 c87_F29) 31 c87_F31) 32 c87_F32) 33 c87_F33) 37 d45_F37) 38 d45_F38) 40 c233_F40) 41 d93_F41)) H → va_D A (mW h0 kB kI kZ q (upd (upd (upd (upd (upd (upd g 23 c82_g23) 27 c87_g27) 30 c87_g30) 34 c87_g34) 36 c87_g36) 39 d45_g39) (upF (upF (upF (upF (upF (upF (upF (upF (upF (upF (upF (upF (upF F 22 c82_F22) 24 c87_F24) 25 c87_F25) 26 c87_F26) 28 c87_F28) 29 c87_F29) 31 c87_F31) 32 c87_F32) 33 c87_F33) 37 d45_F37) 38 d45_F38) 40 c233_F40) 41 d93_F41)) → va_S A s.heap H locs → lv_has ls 9 [(0, .ref h0), (2, .int p1), (3, .int y45_3), (4, .int y93_4), (5, .int y56_5), (6, .int y93_6)] → W p l e ({ frames := 46, cells := 0, slots := 0, locals := 1118 } : Room) s m args below meth c H locs 0 0 Q (F0 m 233 ls []) := by
                              intro c233_F40 H locs ls hr hP hD hS hl
                              rw [hk233] at hr
                              refine lv_aload_n hx hb dX12_through_233 rfl (lv_at hl 0 rfl) ?_
                              refine va_get (D := (dC, dI)) (ci := 12) (v := .ref (q 41)) (C := RX12) (T := TX12) (N := 71) hx hb hts inX12 hown hK hP 0 rfl rfl 41 (by decide) (hts (.fieldLink RX12 91 "SpellTurnerModel" "nextSize" "[I") im_177) (fun _ h9 => h9) rfl dX12_through_234 ?_
                              refine lv_iload hx hb dX12_through_237 (lv_at hl 3 rfl) ?_
                              refine lv_aload_n hx hb dX12_through_239 rfl (lv_at hl 0 rfl) ?_
                              refine va_get (D := (dC, dI)) (ci := 12) (v := .ref (q 33)) (C := RX12) (T := TX12) (N := 71) hx hb hts inX12 hown hK hP 0 rfl rfl 33 (by decide) (hts (.fieldLink RX12 79 "SpellTurnerModel" "madeSize" "[I") im_158) (fun _ h9 => h9) rfl dX12_through_240 ?_
                              refine lv_iload hx hb dX12_through_243 (lv_at hl 5 rfl) ?_
                              replace hr := iteS hr
                              obtain ⟨hi245, hr⟩ := hr
                              refine va_iald (f := c87_F33) hx hb hK hP 22 1 rfl rfl (inbV hi245) dX12_through_245 ?_
                              replace hr := iteS hr
                              obtain ⟨hi246, hr⟩ := hr
                              refine va_iast (f := d93_F41) hx hb hK hP hD hS 26 1 rfl rfl (inbV hi246) dX12_through_246 (fun H locs hP hD hS => ?_)
                              obtain ⟨w246, ew246, hP, hD⟩ : ∃ w246 : Nat → Int32, w246 = (upd d93_F41 (Int32.toNatClampNeg y93_4) (c87_F33 (Int32.toNatClampNeg y93_6))) ∧ va_P (dC, dI) vwCl (mW h0 kB kI kZ q (upd (upd (upd (upd (upd (upd g 23 c82_g23) 27 c87_g27) 30 c87_g30) 34 c87_g34) 36 c87_g36) 39 d45_g39) (upF (upF (upF (upF (upF (upF (upF (upF (upF (upF (upF (upF (upF F 22 c82_F22) 24 c87_F24) 25 c87_F25) 26 c87_F26) 28 c87_F28) 29 c87_F29) 31 c87_F31) 32 c87_F32) 33 c87_F33) 37 d45_F37) 38 d45_F38) 40 c233_F40) 41 w246)) H ∧ va_D A (mW h0 kB kI kZ q (upd (upd (upd (upd (upd (upd g 23 c82_g23) 27 c87_g27) 30 c87_g30) 34 c87_g34) 36 c87_g36) 39 d45_g39) (upF (upF (upF (upF (upF (upF (upF (upF (upF (upF (upF (upF (upF F 22 c82_F22) 24 c87_F24) 25 c87_F25) 26 c87_F26) 28 c87_F28) 29 c87_F29) 31 c87_F31) 32 c87_F32) 33 c87_F33) 37 d45_F37) 38 d45_F38) 40 c233_F40) 41 w246)) := ⟨(upd d93_F41 (Int32.toNatClampNeg y93_4) (c87_F33 (Int32.toNatClampNeg y93_6))), rfl, by first | exact sP_F41 hP upF_same | exact sP_F41 hP rfl | exact hP, by first | exact sD_F41 hD upF_same | exact sD_F41 hD rfl | exact hD⟩
                              replace hr := vlS hr w246 ew246
                              clear ew246
                              refine lv_iinc (v := (y93_4 + 1)) (lv' := [(4, .int (y93_4 + 1)), (0, .ref h0), (2, .int p1), (3, .int y45_3), (5, .int y56_5), (6, .int y93_6)]) hx hb dX12_through_247 hl (k := 3) rfl rfl (by decide) rfl (fun ls hl => ?_)
                              exact Jj250 (y93_4 + 1) c233_F40 w246 H _ ls hr hP hD hS (lv_sub hl [1, 2, 3, 0, 4, 5] rfl)
                            have lp189 : ∀ (n189 : Nat) (y189_8 : Int32) (d189_F40 : (Nat → Int32)) (H : Heap) (locs : List Loc) (ls : Array Slot), L_through_189 c87_F32 c87_F33 y93_4 y93_6 k233 n189 y189_8 d189_F40 = some (c_g23, c_g27, c_g30, c_g34, c_g36, c_g39, c_F22, c_F24, c_F25, c_F26, c_F28, c_F29, c_F31, c_F32, c_F33, c_F37, c_F38, c_F40, c_F41) → va_P (dC, dI) vwCl (mW h0 kB kI kZ q (upd (upd (upd (upd (upd (upd g 23 c82_g23) 27 c87_g27) 30 c87_g30) 34 c87_g34) 36 c87_g36) 39 d45_g39) (upF (upF (upF (upF (upF (upF (upF (upF (upF (upF (upF (upF (upF F 22 c82_F22) 24 c87_F24) 25 c87_F25) 26 c87_F26) 28 c87_F28) 29 c87_F29) 31 c87_F31) 32 c87_F32) 33 c87_F33) 37 d45_F37) 38 d45_F38) 40 d189_F40) 41 d93_F41)) H → va_D A (mW h0 kB kI kZ q (upd (upd (upd (upd (upd (upd g 23 c82_g23) 27 c87_g27) 30 c87_g30) 34 c87_g34) 36 c87_g36) 39 d45_g39) (upF (upF (upF (upF (upF (upF (upF (upF (upF (upF (upF (upF (upF F 22 c82_F22) 24 c87_F24) 25 c87_F25) 26 c87_F26) 28 c87_F28) 29 c87_F29) 31 c87_F31) 32 c87_F32) 33 c87_F33) 37 d45_F37) 38 d45_F38) 40 d189_F40) 41 d93_F41)) → va_S A s.heap H locs → lv_has ls 9 [(0, .ref h0), (2, .int p1), (3, .int y45_3), (4, .int y93_4), (5, .int y56_5), (6, .int y93_6), (8, .int y189_8)] → W p l e ({ frames := 46, cells := 0, slots := 0, locals := 1118 } : Room) s m args below meth c H locs 0 0 Q (F0 m 189 ls []) := by
                              intro n189
                              induction n189 with
                              | zero => intro y189_8 d189_F40 H locs ls hr; exact nomatch (show none = some (c_g23, c_g27, c_g30, c_g34, c_g36, c_g39, c_F22, c_F24, c_F25, c_F26, c_F28, c_F29, c_F31, c_F32, c_F33, c_F37, c_F38, c_F40, c_F41) from hr)
                              | succ n189 ih189 =>
                                intro y189_8 d189_F40 H locs ls hr hP hD hS hl
                                replace hr : B_through_189 c87_F32 c87_F33 y93_4 y93_6 k233 (L_through_189 c87_F32 c87_F33 y93_4 y93_6 k233 n189) y189_8 d189_F40 = some (c_g23, c_g27, c_g30, c_g34, c_g36, c_g39, c_F22, c_F24, c_F25, c_F26, c_F28, c_F29, c_F31, c_F32, c_F33, c_F37, c_F38, c_F40, c_F41) := hr
                                unfold B_through_189 at hr
                                refine lv_iload hx hb dX12_through_189 (lv_at hl 6 rfl) ?_
                                refine lv_aload_n hx hb dX12_through_191 rfl (lv_at hl 0 rfl) ?_
                                refine va_get (D := (dC, dI)) (ci := 12) (v := .ref (q 33)) (C := RX12) (T := TX12) (N := 71) hx hb hts inX12 hown hK hP 0 rfl rfl 33 (by decide) (hts (.fieldLink RX12 79 "SpellTurnerModel" "madeSize" "[I") im_158) (fun _ h9 => h9) rfl dX12_through_192 ?_
                                refine lv_iload hx hb dX12_through_195 (lv_at hl 5 rfl) ?_
                                replace hr := iteS hr
                                obtain ⟨hi197, hr⟩ := hr
                                refine va_iald (f := c87_F33) hx hb hK hP 22 1 rfl rfl (inbV hi197) dX12_through_197 ?_
                                refine lv_icmp_ge (tgt := 233) hx hb dX12_through_198 (by decide) (fun c198 => ?_) (fun c198 => ?_)
                                · replace hr := iteT c198 hr
                                  exact Jk233 d189_F40 H _ ls hr hP hD hS (lv_sub hl [0, 1, 2, 3, 4, 5] rfl)
                                · replace hr := iteF c198 hr
                                  refine lv_aload_n hx hb dX12_through_201 rfl (lv_at hl 0 rfl) ?_
                                  refine va_get (D := (dC, dI)) (ci := 12) (v := .ref (q 40)) (C := RX12) (T := TX12) (N := 71) hx hb hts inX12 hown hK hP 0 rfl rfl 40 (by decide) (hts (.fieldLink RX12 88 "SpellTurnerModel" "next" "[B") im_179) (fun _ h9 => h9) rfl dX12_through_202 ?_
                                  refine lv_bipush (v := 24) hx hb dX12_through_205 (by decide +kernel) ?_
                                  refine lv_iload hx hb dX12_through_207 (lv_at hl 3 rfl) ?_
                                  refine lv_imul hx hb dX12_through_209 ?_
                                  refine lv_iload hx hb dX12_through_210 (lv_at hl 6 rfl) ?_
                                  refine lv_iadd hx hb dX12_through_212 ?_
                                  refine lv_aload_n hx hb dX12_through_213 rfl (lv_at hl 0 rfl) ?_
                                  refine va_get (D := (dC, dI)) (ci := 12) (v := .ref (q 32)) (C := RX12) (T := TX12) (N := 71) hx hb hts inX12 hown hK hP 0 rfl rfl 32 (by decide) (hts (.fieldLink RX12 76 "SpellTurnerModel" "made" "[B") im_160) (fun _ h9 => h9) rfl dX12_through_214 ?_
                                  refine lv_bipush (v := 24) hx hb dX12_through_217 (by decide +kernel) ?_
                                  refine lv_iload hx hb dX12_through_219 (lv_at hl 5 rfl) ?_
                                  refine lv_imul hx hb dX12_through_221 ?_
                                  refine lv_iload hx hb dX12_through_222 (lv_at hl 6 rfl) ?_
                                  refine lv_iadd hx hb dX12_through_224 ?_
                                  replace hr := iteS hr
                                  obtain ⟨hi225, hr⟩ := hr
                                  refine va_bald (f := c87_F32) hx hb hK hP 21 0 rfl rfl (inbV hi225) dX12_through_225 ?_
                                  replace hr := iteS hr
                                  obtain ⟨hi226, hr⟩ := hr
                                  refine va_bast (f := d189_F40) hx hb hK hP hD hS 25 0 rfl rfl (inbV hi226) dX12_through_226 (fun H locs hP hD hS => ?_)
                                  obtain ⟨w226, ew226, hP, hD⟩ : ∃ w226 : Nat → Int32, w226 = (upd d189_F40 (Int32.toNatClampNeg ((24 * y93_4) + y189_8)) (vp_nar .byte (c87_F32 (Int32.toNatClampNeg ((24 * y93_6) + y189_8))))) ∧ va_P (dC, dI) vwCl (mW h0 kB kI kZ q (upd (upd (upd (upd (upd (upd g 23 c82_g23) 27 c87_g27) 30 c87_g30) 34 c87_g34) 36 c87_g36) 39 d45_g39) (upF (upF (upF (upF (upF (upF (upF (upF (upF (upF (upF (upF (upF F 22 c82_F22) 24 c87_F24) 25 c87_F25) 26 c87_F26) 28 c87_F28) 29 c87_F29) 31 c87_F31) 32 c87_F32) 33 c87_F33) 37 d45_F37) 38 d45_F38) 40 w226) 41 d93_F41)) H ∧ va_D A (mW h0 kB kI kZ q (upd (upd (upd (upd (upd (upd g 23 c82_g23) 27 c87_g27) 30 c87_g30) 34 c87_g34) 36 c87_g36) 39 d45_g39) (upF (upF (upF (upF (upF (upF (upF (upF (upF (upF (upF (upF (upF F 22 c82_F22) 24 c87_F24) 25 c87_F25) 26 c87_F26) 28 c87_F28) 29 c87_F29) 31 c87_F31) 32 c87_F32) 33 c87_F33) 37 d45_F37) 38 d45_F38) 40 w226) 41 d93_F41)) := ⟨(upd d189_F40 (Int32.toNatClampNeg ((24 * y93_4) + y189_8)) (vp_nar .byte (c87_F32 (Int32.toNatClampNeg ((24 * y93_6) + y189_8))))), rfl, by first | exact sP_F40 hP (upF_in (by decide) upF_same) | exact sP_F40 hP (upF_in (by decide) rfl) | exact hP, by first | exact sD_F40 hD (upF_in (by decide) upF_same) | exact sD_F40 hD (upF_in (by decide) rfl) | exact hD⟩
                                  replace hr := vlS hr w226 ew226
                                  clear ew226
                                  refine lv_iinc (v := (y189_8 + 1)) (lv' := [(8, .int (y189_8 + 1)), (0, .ref h0), (2, .int p1), (3, .int y45_3), (4, .int y93_4), (5, .int y56_5), (6, .int y93_6)]) hx hb dX12_through_227 hl (k := 6) rfl rfl (by decide) rfl (fun ls hl => ?_)
                                  refine lv_goto (tgt := 189) hx hb dX12_through_230 (by decide) ?_
                                  exact ih189 (y189_8 + 1) w226 H _ ls hr hP hD hS (lv_sub hl [1, 2, 3, 4, 5, 6, 0] rfl)
                            exact lp189 NN 0 d93_F40 H _ ls hr hP hD hS (lv_sub hl [1, 2, 3, 4, 5, 6, 0] rfl)
                          · replace hr := iteT c180 hr
                            refine lv_goto (tgt := 250) hx hb dX12_through_183 (by decide) ?_
                            exact Jj250 y93_4 d93_F40 d93_F41 H _ ls hr hP hD hS (lv_sub hl [0, 1, 2, 3, 4, 5] rfl)
                        have lp115 : ∀ (n115 : Nat) (y115_7 : Int32) (y115_8 : Int32) (H : Heap) (locs : List Loc) (ls : Array Slot), L_through_115 c87_F32 c87_F33 y93_4 y93_6 d93_F40 d93_F41 k178 n115 y115_7 y115_8 = some (c_g23, c_g27, c_g30, c_g34, c_g36, c_g39, c_F22, c_F24, c_F25, c_F26, c_F28, c_F29, c_F31, c_F32, c_F33, c_F37, c_F38, c_F40, c_F41) → va_P (dC, dI) vwCl (mW h0 kB kI kZ q (upd (upd (upd (upd (upd (upd g 23 c82_g23) 27 c87_g27) 30 c87_g30) 34 c87_g34) 36 c87_g36) 39 d45_g39) (upF (upF (upF (upF (upF (upF (upF (upF (upF (upF (upF (upF (upF F 22 c82_F22) 24 c87_F24) 25 c87_F25) 26 c87_F26) 28 c87_F28) 29 c87_F29) 31 c87_F31) 32 c87_F32) 33 c87_F33) 37 d45_F37) 38 d45_F38) 40 d93_F40) 41 d93_F41)) H → va_D A (mW h0 kB kI kZ q (upd (upd (upd (upd (upd (upd g 23 c82_g23) 27 c87_g27) 30 c87_g30) 34 c87_g34) 36 c87_g36) 39 d45_g39) (upF (upF (upF (upF (upF (upF (upF (upF (upF (upF (upF (upF (upF F 22 c82_F22) 24 c87_F24) 25 c87_F25) 26 c87_F26) 28 c87_F28) 29 c87_F29) 31 c87_F31) 32 c87_F32) 33 c87_F33) 37 d45_F37) 38 d45_F38) 40 d93_F40) 41 d93_F41)) → va_S A s.heap H locs → lv_has ls 9 [(0, .ref h0), (2, .int p1), (3, .int y45_3), (4, .int y93_4), (5, .int y56_5), (6, .int y93_6), (7, .int y115_7), (8, .int y115_8)] → W p l e ({ frames := 46, cells := 0, slots := 0, locals := 1118 } : Room) s m args below meth c H locs 0 0 Q (F0 m 115 ls []) := by
                          intro n115
                          induction n115 with
                          | zero => intro y115_7 y115_8 H locs ls hr; exact nomatch (show none = some (c_g23, c_g27, c_g30, c_g34, c_g36, c_g39, c_F22, c_F24, c_F25, c_F26, c_F28, c_F29, c_F31, c_F32, c_F33, c_F37, c_F38, c_F40, c_F41) from hr)
                          | succ n115 ih115 =>
                            intro y115_7 y115_8 H locs ls hr hP hD hS hl
                            replace hr : B_through_115 c87_F32 c87_F33 y93_4 y93_6 d93_F40 d93_F41 k178 (L_through_115 c87_F32 c87_F33 y93_4 y93_6 d93_F40 d93_F41 k178 n115) y115_7 y115_8 = some (c_g23, c_g27, c_g30, c_g34, c_g36, c_g39, c_F22, c_F24, c_F25, c_F26, c_F28, c_F29, c_F31, c_F32, c_F33, c_F37, c_F38, c_F40, c_F41) := hr
                            unfold B_through_115 at hr
                            refine lv_iload hx hb dX12_through_115 (lv_at hl 7 rfl) ?_
                            refine lv_iload hx hb dX12_through_117 (lv_at hl 3 rfl) ?_
                            refine lv_icmp_ge (tgt := 178) hx hb dX12_through_119 (by decide) (fun c119 => ?_) (fun c119 => ?_)
                            · replace hr := iteT c119 hr
                              exact Jk178 y115_7 H _ ls hr hP hD hS (lv_sub hl [0, 1, 2, 3, 4, 5, 6] rfl)
                            · replace hr := iteF c119 hr
                              refine lv_iload hx hb dX12_through_122 (lv_at hl 6 rfl) ?_
                              refine lv_if_eq (tgt := 178) hx hb dX12_through_124 (by decide) (fun c124 => ?_) (fun c124 => ?_)
                              · replace hr := iteT c124 hr
                                exact Jk178 y115_7 H _ ls hr hP hD hS (lv_sub hl [0, 1, 2, 3, 4, 5, 6] rfl)
                              · replace hr := iteF c124 hr
                                refine lv_aload_n hx hb dX12_through_127 rfl (lv_at hl 0 rfl) ?_
                                refine va_get (D := (dC, dI)) (ci := 12) (v := .ref (q 40)) (C := RX12) (T := TX12) (N := 71) hx hb hts inX12 hown hK hP 0 rfl rfl 40 (by decide) (hts (.fieldLink RX12 88 "SpellTurnerModel" "next" "[B") im_179) (fun _ h9 => h9) rfl dX12_through_128 ?_
                                refine lv_bipush (v := 24) hx hb dX12_through_131 (by decide +kernel) ?_
                                refine lv_iload hx hb dX12_through_133 (lv_at hl 7 rfl) ?_
                                refine lv_imul hx hb dX12_through_135 ?_
                                refine lv_aload_n hx hb dX12_through_136 rfl (lv_at hl 0 rfl) ?_
                                refine va_get (D := (dC, dI)) (ci := 12) (v := .ref (q 41)) (C := RX12) (T := TX12) (N := 71) hx hb hts inX12 hown hK hP 0 rfl rfl 41 (by decide) (hts (.fieldLink RX12 91 "SpellTurnerModel" "nextSize" "[I") im_177) (fun _ h9 => h9) rfl dX12_through_137 ?_
                                refine lv_iload hx hb dX12_through_140 (lv_at hl 7 rfl) ?_
                                replace hr := iteS hr
                                obtain ⟨hi142, hr⟩ := hr
                                refine va_iald (f := d93_F41) hx hb hK hP 26 1 rfl rfl (inbV hi142) dX12_through_142 ?_
                                refine lv_aload_n hx hb dX12_through_143 rfl (lv_at hl 0 rfl) ?_
                                refine va_get (D := (dC, dI)) (ci := 12) (v := .ref (q 32)) (C := RX12) (T := TX12) (N := 71) hx hb hts inX12 hown hK hP 0 rfl rfl 32 (by decide) (hts (.fieldLink RX12 76 "SpellTurnerModel" "made" "[B") im_160) (fun _ h9 => h9) rfl dX12_through_144 ?_
                                refine lv_bipush (v := 24) hx hb dX12_through_147 (by decide +kernel) ?_
                                refine lv_iload hx hb dX12_through_149 (lv_at hl 5 rfl) ?_
                                refine lv_imul hx hb dX12_through_151 ?_
                                refine lv_aload_n hx hb dX12_through_152 rfl (lv_at hl 0 rfl) ?_
                                refine va_get (D := (dC, dI)) (ci := 12) (v := .ref (q 33)) (C := RX12) (T := TX12) (N := 71) hx hb hts inX12 hown hK hP 0 rfl rfl 33 (by decide) (hts (.fieldLink RX12 79 "SpellTurnerModel" "madeSize" "[I") im_158) (fun _ h9 => h9) rfl dX12_through_153 ?_
                                refine lv_iload hx hb dX12_through_156 (lv_at hl 5 rfl) ?_
                                replace hr := iteS hr
                                obtain ⟨hi158, hr⟩ := hr
                                refine va_iald (f := c87_F33) hx hb hK hP 22 1 rfl rfl (inbV hi158) dX12_through_158 ?_
                                replace hr := b1S hr
                                obtain ⟨r159z, hc159, hr⟩ := hr
                                have hFc := fr_all hD hS hA
                                refine va_calli (va_runS (As := [.ref (q 40), .int (24 * y115_8), .int (d93_F41 (Int32.toNatClampNeg y115_8)), .ref (q 32), .int (24 * y93_6), .int (c87_F33 (Int32.toNatClampNeg y93_6))]) (rest := []) ⟨hx, hb, hml, hown, hts⟩ (m_sameBytes_40_32 l dC dI H.size h0 kB kI kZ q (upd (upd (upd (upd (upd (upd g 23 c82_g23) 27 c87_g27) 30 c87_g30) 34 c87_g34) 36 c87_g36) 39 d45_g39) (upF (upF (upF (upF (upF (upF (upF (upF (upF (upF (upF (upF (upF F 22 c82_F22) 24 c87_F24) 25 c87_F25) 26 c87_F26) 28 c87_F28) 29 c87_F29) 31 c87_F31) 32 c87_F32) 33 c87_F33) 37 d45_F37) 38 d45_F38) 40 d93_F40) 41 d93_F41) (24 * y115_8) (d93_F41 (Int32.toNatClampNeg y115_8)) (24 * y93_6) (c87_F33 (Int32.toNatClampNeg y93_6)) r159z hc159) (va_cwS 6 hts gw_X12_sameBytes_273 rfl rfl rfl (by decide +kernel) ⟨Nat.le_of_ble_eq_true rfl, Nat.le_of_ble_eq_true rfl⟩) ⟨fun a U g mk q => by obtain ⟨q0, q1, qP, qK, qD⟩ := q; exact ⟨q0, q1, qP, va_K.moved (u := U) (U := U.calling g mk a) (Vm.Alike.refl U.vm) qK, qD⟩, fun U hU hW => ⟨rfl, by rw [hU], by rw [hU]; exact hP, va_K.moved hW.alike hK, hD.weaken (fun _ _ _ _ => trivial)⟩⟩ rfl rfl hl.1 rfl (lv_room (Nat.le_of_ble_eq_true rfl)) dX12_through_159 ⟨Nat.le_of_ble_eq_true rfl, Nat.le_of_ble_eq_true rfl⟩) hS (fun q _ h => hFc q h) hFc (fun r159 u t H1 locs ht hvm hw hB hz1 hk1 hS => ?_)
                                replace hw : r159 = r159z := hw
                                subst hw
                                obtain ⟨hP1, hK1, hD1⟩ := hB
                                rw [ht] at hP1
                                obtain ⟨hP, hD⟩ := jn_all (w1 := (mW h0 kB kI kZ q (upd (upd (upd (upd (upd (upd g 23 c82_g23) 27 c87_g27) 30 c87_g30) 34 c87_g34) 36 c87_g36) 39 d45_g39) (upF (upF (upF (upF (upF (upF (upF (upF (upF (upF (upF (upF (upF F 22 c82_F22) 24 c87_F24) 25 c87_F25) 26 c87_F26) 28 c87_F28) 29 c87_F29) 31 c87_F31) 32 c87_F32) 33 c87_F33) 37 d45_F37) 38 d45_F38) 40 d93_F40) 41 d93_F41))) hFc hP1 hD1
                                clear hFc hP1 hK1 hD1 hk1 hz1 ht hvm
                                generalize H1 = H at hP hS ⊢
                                have hP : va_P (dC, dI) vwCl (mW h0 kB kI kZ q (upd (upd (upd (upd (upd (upd g 23 c82_g23) 27 c87_g27) 30 c87_g30) 34 c87_g34) 36 c87_g36) 39 d45_g39) (upF (upF (upF (upF (upF (upF (upF (upF (upF (upF (upF (upF (upF F 22 c82_F22) 24 c87_F24) 25 c87_F25) 26 c87_F26) 28 c87_F28) 29 c87_F29) 31 c87_F31) 32 c87_F32) 33 c87_F33) 37 d45_F37) 38 d45_F38) 40 d93_F40) 41 d93_F41)) H := hP
                                have hD : va_D A (mW h0 kB kI kZ q (upd (upd (upd (upd (upd (upd g 23 c82_g23) 27 c87_g27) 30 c87_g30) 34 c87_g34) 36 c87_g36) 39 d45_g39) (upF (upF (upF (upF (upF (upF (upF (upF (upF (upF (upF (upF (upF F 22 c82_F22) 24 c87_F24) 25 c87_F25) 26 c87_F26) 28 c87_F28) 29 c87_F29) 31 c87_F31) 32 c87_F32) 33 c87_F33) 37 d45_F37) 38 d45_F38) 40 d93_F40) 41 d93_F41)) := hD
                                replace hr := jnS hr
                                obtain ⟨j170, hj170, hr⟩ := hr
                                have Jj170 : ∀ (t170_0 : Int32) (H : Heap) (locs : List Loc) (ls : Array Slot), j170 t170_0 = some (c_g23, c_g27, c_g30, c_g34, c_g36, c_g39, c_F22, c_F24, c_F25, c_F26, c_F28, c_F29, c_F31, c_F32, c_F33, c_F37, c_F38, c_F40, c_F41) → va_P (dC, dI) vwCl (mW h0 kB kI kZ q (upd (upd (upd (upd (upd (upd g 23 c82_g23) 27 c87_g27) 30 c87_g30) 34 c87_g34) 36 c87_g36) 39 d45_g39) (upF (upF (upF (upF (upF (upF (upF (upF (upF (upF (upF (upF (upF F 22 c82_F22) 24 c87_F24) 25 c87_F25) 26 c87_F26) 28 c87_F28) 29 c87_F29) 31 c87_F31) 32 c87_F32) 33 c87_F33) 37 d45_F37) 38 d45_F38) 40 d93_F40) 41 d93_F41)) H → va_D A (mW h0 kB kI kZ q (upd (upd (upd (upd (upd (upd g 23 c82_g23) 27 c87_g27) 30 c87_g30) 34 c87_g34) 36 c87_g36) 39 d45_g39) (upF (upF (upF (upF (upF (upF (upF (upF (upF (upF (upF (upF (upF F 22 c82_F22) 24 c87_F24) 25 c87_F25) 26 c87_F26) 28 c87_F28) 29 c87_F29) 31 c87_F31) 32 c87_F32) 33 c87_F33) 37 d45_F37) 38 d45_F38) 40 d93_F40) 41 d93_F41)) → va_S A s.heap H locs → lv_has ls 9 [(0, .ref h0), (2, .int p1), (3, .int y45_3), (4, .int y93_4), (5, .int y56_5), (6, .int y93_6), (8, .int y115_8)] → W p l e ({ frames := 46, cells := 0, slots := 0, locals := 1118 } : Room) s m args below meth c H locs 0 0 Q (F0 m 170 ls [.int t170_0]) := by
                                  intro t170_0 H locs ls hr hP hD hS hl
                                  rw [hj170] at hr
                                  refine lv_istore (lv' := [(7, .int t170_0), (0, .ref h0), (2, .int p1), (3, .int y45_3), (4, .int y93_4), (5, .int y56_5), (6, .int y93_6), (8, .int y115_8)]) hx hb dX12_through_170 hl (by decide) rfl (fun ls hl => ?_)
                                  refine lv_iinc (v := (y115_8 + 1)) (lv' := [(8, .int (y115_8 + 1)), (7, .int t170_0), (0, .ref h0), (2, .int p1), (3, .int y45_3), (4, .int y93_4), (5, .int y56_5), (6, .int y93_6)]) hx hb dX12_through_172 hl (k := 7) rfl rfl (by decide) rfl (fun ls hl => ?_)
                                  refine lv_goto (tgt := 115) hx hb dX12_through_175 (by decide) ?_
                                  exact ih115 t170_0 (y115_8 + 1) H _ ls hr hP hD hS (lv_sub hl [2, 3, 4, 5, 6, 7, 1, 0] rfl)
                                refine lv_if_ne (tgt := 169) hx hb dX12_through_162 (by decide) (fun c162 => ?_) (fun c162 => ?_)
                                · replace hr := iteF c162 hr
                                  refine lv_iconst (v := 0) hx hb dX12_through_169 (by decide +kernel) ?_
                                  exact Jj170 0 H _ ls hr hP hD hS (lv_sub hl [0, 1, 2, 3, 4, 5, 7] rfl)
                                · replace hr := iteT c162 hr
                                  refine lv_iconst (v := 1) hx hb dX12_through_165 (by decide +kernel) ?_
                                  refine lv_goto (tgt := 170) hx hb dX12_through_166 (by decide) ?_
                                  exact Jj170 1 H _ ls hr hP hD hS (lv_sub hl [0, 1, 2, 3, 4, 5, 7] rfl)
                        exact lp115 NN 1 0 H _ ls hr hP hD hS (lv_sub hl [2, 3, 4, 5, 6, 7, 1, 0] rfl)
                exact lp93 NN y56_4 0 d56_F40 d56_F41 H _ ls hr hP hD hS (lv_sub hl [1, 2, 3, 4, 5, 0] rfl)
          exact lp56 NN 0 0 d45_g23 d45_g27 d45_g30 d45_g34 d45_g36 d45_F22 d45_F24 d45_F25 d45_F26 d45_F28 d45_F29 d45_F31 d45_F32 d45_F33 d45_F40 d45_F41 H _ ls hr hP hD hS (lv_sub hl [2, 3, 4, 1, 0] rfl)
    first | exact lp45 NN p0 (g 23) (g 27) (g 30) (g 34) (g 36) 1 (F 22) (F 24) (F 25) (F 26) (F 28) (F 29) (F 31) (F 32) (F 33) c28_F37 w37 (F 40) (F 41) H _ ls hr (sP_eq (mW_cg (by repeat (first | with_reducible rfl | with_reducible refine upd_cg ?_ | refine Eq.trans ?_ (upd_id rfl))) (by repeat (first | with_reducible rfl | with_reducible refine upF_cg ?_ | refine Eq.trans ?_ (upF_id rfl)))) hP) (sD_eq (mW_cg (by repeat (first | with_reducible rfl | with_reducible refine upd_cg ?_ | refine Eq.trans ?_ (upd_id rfl))) (by repeat (first | with_reducible rfl | with_reducible refine upF_cg ?_ | refine Eq.trans ?_ (upF_id rfl)))) hD) hS (lv_sub hl [1, 3, 0] rfl) | exact lp45 NN p0 (g 23) (g 27) (g 30) (g 34) (g 36) 1 (F 22) (F 24) (F 25) (F 26) (F 28) (F 29) (F 31) (F 32) (F 33) c28_F37 w37 (F 40) (F 41) H _ ls hr hP hD hS (lv_sub hl [1, 3, 0] rfl)
  have lp2 : ∀ (n2 : Nat) (y2_3 : Int32) (d2_F37 : (Nat → Int32)) (H : Heap) (locs : List Loc) (ls : Array Slot), L_through_2 g F k28 n2 y2_3 d2_F37 = some (c_g23, c_g27, c_g30, c_g34, c_g36, c_g39, c_F22, c_F24, c_F25, c_F26, c_F28, c_F29, c_F31, c_F32, c_F33, c_F37, c_F38, c_F40, c_F41) → va_P (dC, dI) vwCl (mW h0 kB kI kZ q g (upF F 37 d2_F37)) H → va_D A (mW h0 kB kI kZ q g (upF F 37 d2_F37)) → va_S A s.heap H locs → lv_has ls 9 [(0, .ref h0), (1, .int p0), (2, .int p1), (3, .int y2_3)] → W p l e ({ frames := 46, cells := 0, slots := 0, locals := 1118 } : Room) s m args below meth c H locs 0 0 Q (F0 m 2 ls []) := by
    intro n2
    induction n2 with
    | zero => intro y2_3 d2_F37 H locs ls hr; exact nomatch (show none = some (c_g23, c_g27, c_g30, c_g34, c_g36, c_g39, c_F22, c_F24, c_F25, c_F26, c_F28, c_F29, c_F31, c_F32, c_F33, c_F37, c_F38, c_F40, c_F41) from hr)
    | succ n2 ih2 =>
      intro y2_3 d2_F37 H locs ls hr hP hD hS hl
      replace hr : B_through_2 g F k28 (L_through_2 g F k28 n2) y2_3 d2_F37 = some (c_g23, c_g27, c_g30, c_g34, c_g36, c_g39, c_F22, c_F24, c_F25, c_F26, c_F28, c_F29, c_F31, c_F32, c_F33, c_F37, c_F38, c_F40, c_F41) := hr
      unfold B_through_2 at hr
      refine lv_iload_n hx hb dX12_through_2 rfl (lv_at hl 3 rfl) ?_
      refine lv_aload_n hx hb dX12_through_3 rfl (lv_at hl 0 rfl) ?_
      refine va_get (D := (dC, dI)) (ci := 12) (v := .int (g 23)) (C := RX12) (T := TX12) (N := 71) hx hb hts inX12 hown hK hP 0 rfl rfl 23 (by decide) (hts (.fieldLink RX12 244 "SpellTurnerModel" "letters" "I") im_49) (fun _ h9 => h9) rfl dX12_through_4 ?_
      refine lv_icmp_ge (tgt := 28) hx hb dX12_through_7 (by decide) (fun c7 => ?_) (fun c7 => ?_)
      · replace hr := iteT c7 hr
        exact Jk28 d2_F37 H _ ls hr hP hD hS (lv_sub hl [0, 1, 2] rfl)
      · replace hr := iteF c7 hr
        refine lv_aload_n hx hb dX12_through_10 rfl (lv_at hl 0 rfl) ?_
        refine va_get (D := (dC, dI)) (ci := 12) (v := .ref (q 37)) (C := RX12) (T := TX12) (N := 71) hx hb hts inX12 hown hK hP 0 rfl rfl 37 (by decide) (hts (.fieldLink RX12 82 "SpellTurnerModel" "now" "[B") im_178) (fun _ h9 => h9) rfl dX12_through_11 ?_
        refine lv_iload_n hx hb dX12_through_14 rfl (lv_at hl 3 rfl) ?_
        refine lv_aload_n hx hb dX12_through_15 rfl (lv_at hl 0 rfl) ?_
        refine va_get (D := (dC, dI)) (ci := 12) (v := .ref (q 22)) (C := RX12) (T := TX12) (N := 71) hx hb hts inX12 hown hK hP 0 rfl rfl 22 (by decide) (hts (.fieldLink RX12 55 "SpellTurnerModel" "word" "[B") im_50) (fun _ h9 => h9) rfl dX12_through_16 ?_
        refine lv_iload_n hx hb dX12_through_19 rfl (lv_at hl 3 rfl) ?_
        replace hr := iteS hr
        obtain ⟨hi20, hr⟩ := hr
        refine va_bald (f := (F 22)) hx hb hK hP 14 0 rfl rfl (inbV hi20) dX12_through_20 ?_
        replace hr := iteS hr
        obtain ⟨hi21, hr⟩ := hr
        refine va_bast (f := d2_F37) hx hb hK hP hD hS 23 0 rfl rfl (inbV hi21) dX12_through_21 (fun H locs hP hD hS => ?_)
        obtain ⟨w21, ew21, hP, hD⟩ : ∃ w21 : Nat → Int32, w21 = (upd d2_F37 (Int32.toNatClampNeg y2_3) (vp_nar .byte ((F 22) (Int32.toNatClampNeg y2_3)))) ∧ va_P (dC, dI) vwCl (mW h0 kB kI kZ q g (upF F 37 w21)) H ∧ va_D A (mW h0 kB kI kZ q g (upF F 37 w21)) := ⟨(upd d2_F37 (Int32.toNatClampNeg y2_3) (vp_nar .byte ((F 22) (Int32.toNatClampNeg y2_3)))), rfl, by first | exact sP_F37 hP upF_same | exact sP_F37 hP rfl | exact hP, by first | exact sD_F37 hD upF_same | exact sD_F37 hD rfl | exact hD⟩
        replace hr := vlS hr w21 ew21
        clear ew21
        refine lv_iinc (v := (y2_3 + 1)) (lv' := [(3, .int (y2_3 + 1)), (0, .ref h0), (1, .int p0), (2, .int p1)]) hx hb dX12_through_22 hl (k := 3) rfl rfl (by decide) rfl (fun ls hl => ?_)
        refine lv_goto (tgt := 2) hx hb dX12_through_25 (by decide) ?_
        exact ih2 (y2_3 + 1) w21 H _ ls hr hP hD hS (lv_sub hl [1, 2, 3, 0] rfl)
  first | exact lp2 NN 0 (F 37) H _ ls hr (sP_eq (mW_cg (by repeat (first | with_reducible rfl | with_reducible refine upd_cg ?_ | refine Eq.trans ?_ (upd_id rfl))) (by repeat (first | with_reducible rfl | with_reducible refine upF_cg ?_ | refine Eq.trans ?_ (upF_id rfl)))) hP) (sD_eq (mW_cg (by repeat (first | with_reducible rfl | with_reducible refine upd_cg ?_ | refine Eq.trans ?_ (upd_id rfl))) (by repeat (first | with_reducible rfl | with_reducible refine upF_cg ?_ | refine Eq.trans ?_ (upF_id rfl)))) hD) hS (lv_sub hl [1, 2, 3, 0] rfl) | exact lp2 NN 0 (F 37) H _ ls hr hP hD hS (lv_sub hl [1, 2, 3, 0] rfl)
set_option maxHeartbeats 4000000 in
set_option maxRecDepth 100000 in
theorem m_through (l : Launch) (dC : Nat → ClassId) (dI : Nat → Nat → Nat) (sz : Nat) (h0 : Nat) (kB kI kZ : ClassId) (q : Nat → Nat) (g : Nat → Int32) (F : Nat → Nat → Int32) (p0 : Int32) (p1 : Int32) (c_g23 : Int32) (c_g27 : Int32) (c_g30 : Int32) (c_g34 : Int32) (c_g36 : Int32) (c_g39 : Int32) (c_F22 : (Nat → Int32)) (c_F24 : (Nat → Int32)) (c_F25 : (Nat → Int32)) (c_F26 : (Nat → Int32)) (c_F28 : (Nat → Int32)) (c_F29 : (Nat → Int32)) (c_F31 : (Nat → Int32)) (c_F32 : (Nat → Int32)) (c_F33 : (Nat → Int32)) (c_F37 : (Nat → Int32)) (c_F38 : (Nat → Int32)) (c_F40 : (Nat → Int32)) (c_F41 : (Nat → Int32)) (hr : f_through g F p0 p1 = some (c_g23, c_g27, c_g30, c_g34, c_g36, c_g39, c_F22, c_F24, c_F25, c_F26, c_F28, c_F29, c_F31, c_F32, c_F33, c_F37, c_F38, c_F40, c_F41)) : Met l yX12_through vmX12_through ({ frames := 46, cells := 0, slots := 0, locals := 1118 } : Room) (va_Pc [.ref h0, .int p0, .int p1] (fun U => U.heap.size = sz ∧ va_P (dC, dI) vwCl (mW h0 kB kI kZ q g F) U.heap ∧ va_K (dC, dI) vwCl (mT kB kI kZ) U ∧ va_D (fun _ => True) (mW h0 kB kI kZ q g F))) (va_Qv (fun _ : Unit => True) (fun _ t => va_P (dC, dI) vwCl (mW h0 kB kI kZ q (upd (upd (upd (upd (upd (upd g 23 c_g23) 27 c_g27) 30 c_g30) 34 c_g34) 36 c_g36) 39 c_g39) (upF (upF (upF (upF (upF (upF (upF (upF (upF (upF (upF (upF (upF F 22 c_F22) 24 c_F24) 25 c_F25) 26 c_F26) 28 c_F28) 29 c_F29) 31 c_F31) 32 c_F32) 33 c_F33) 37 c_F37) 38 c_F38) 40 c_F40) 41 c_F41)) t.heap ∧ va_K (dC, dI) vwCl (mT kB kI kZ) t ∧ va_D (va_A (mW h0 kB kI kZ q g F) sz) (mW h0 kB kI kZ q (upd (upd (upd (upd (upd (upd g 23 c_g23) 27 c_g27) 30 c_g30) 34 c_g34) 36 c_g36) 39 c_g39) (upF (upF (upF (upF (upF (upF (upF (upF (upF (upF (upF (upF (upF F 22 c_F22) 24 c_F24) 25 c_F25) 26 c_F26) 28 c_F28) 29 c_F29) 31 c_F31) 32 c_F32) 33 c_F33) 37 c_F37) 38 c_F38) 40 c_F40) 41 c_F41))) (va_A (mW h0 kB kI kZ q g F) sz)) 0 0 (va_A (mW h0 kB kI kZ q g F) sz) := by
  refine Met.ofW (cc := cX12_through) (maxL := 9) (ret := none) (by decide) rfl ?_
  intro p e s m args below meth c s₁ B hml hv
  obtain ⟨rfl, hsz, hP, hK, hD0⟩ := hv
  have hx := B.exec
  have hb := B.bytes
  have hrt := B.returns
  have hts := atoms_spec (ws := vmX12_through) B.pre
  have hown : s.vm.findClass RX12 = some m.cls := findClass_of_methodNamed B.named
  subst hsz
  have hD := hD0.self (sz := s.heap.size)
  generalize hAe : va_A (mW h0 kB kI kZ q g F) s.heap.size = A at hD ⊢
  have hA : ∀ q : Nat, s.heap.size ≤ q → A q := fun q h => by rw [← hAe]; exact Or.inr h
  have hS : va_S A s.heap s.heap [] := va_S.rf
  have hl := lv_entry ([.ref h0, .int p0, .int p1]) (n := 9) (Nat.le_of_ble_eq_true rfl)
  rw [lg_entry_eq]
  generalize (lg_sl ([.ref h0, .int p0, .int p1]) ++ List.replicate (9 - (lg_sl ([.ref h0, .int p0, .int p1])).length) Slot.unset).toArray = ls at hl ⊢
  exact bm_through p0 p1 c_g23 c_g27 c_g30 c_g34 c_g36 c_g39 c_F22 c_F24 c_F25 c_F26 c_F28 c_F29 c_F31 c_F32 c_F33 c_F37 c_F38 c_F40 c_F41 hr hx hb hml hown hts hA hK hP hD hS hl (fun pc ls c_g23z c_g27z c_g30z c_g34z c_g36z c_g39z c_F22z c_F24z c_F25z c_F26z c_F28z c_F29z c_F31z c_F32z c_F33z c_F37z c_F38z c_F40z c_F41z H locs he hd hP hD hS => by cases he; exact W.vret hx hb hrt (fun t ht hW => ⟨⟨(), rfl, trivial, by rw [ht]; exact hP, va_K.moved hW.alike hK, hD⟩, hS.F ht⟩) hS.2.2 hd)
