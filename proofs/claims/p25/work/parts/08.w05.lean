theorem gd_X0_fill_37 : decode cX0_fill 37 = .ok (.aload_n 0, 1) ∧ decode cX0_fill 38 = .ok (.getfield 32, 3) ∧ decode cX0_fill 41 = .ok (.iconst 0, 1) ∧ decode cX0_fill 42 = .ok (.putfield 38, 3) ∧ decode cX0_fill 45 = .ok (.iload 4, 2) ∧ decode cX0_fill 47 = .ok (.ifCond .ne 40, 3) ∧ decode cX0_fill 50 = .ok (.aload_n 0, 1) ∧ decode cX0_fill 51 = .ok (.getfield 32, 3) ∧ decode cX0_fill 54 = .ok (.aload_n 0, 1) ∧ decode cX0_fill 55 = .ok (.getfield 14, 3) := by decide +kernel
theorem dX0_fill_37 : decode cX0_fill 37 = .ok (.aload_n 0, 1) := gd_X0_fill_37.1
theorem dX0_fill_38 : decode cX0_fill 38 = .ok (.getfield 32, 3) := gd_X0_fill_37.2.1
theorem dX0_fill_41 : decode cX0_fill 41 = .ok (.iconst 0, 1) := gd_X0_fill_37.2.2.1
theorem dX0_fill_42 : decode cX0_fill 42 = .ok (.putfield 38, 3) := gd_X0_fill_37.2.2.2.1
theorem dX0_fill_45 : decode cX0_fill 45 = .ok (.iload 4, 2) := gd_X0_fill_37.2.2.2.2.1
theorem dX0_fill_47 : decode cX0_fill 47 = .ok (.ifCond .ne 40, 3) := gd_X0_fill_37.2.2.2.2.2.1
theorem dX0_fill_50 : decode cX0_fill 50 = .ok (.aload_n 0, 1) := gd_X0_fill_37.2.2.2.2.2.2.1
theorem dX0_fill_51 : decode cX0_fill 51 = .ok (.getfield 32, 3) := gd_X0_fill_37.2.2.2.2.2.2.2.1
theorem dX0_fill_54 : decode cX0_fill 54 = .ok (.aload_n 0, 1) := gd_X0_fill_37.2.2.2.2.2.2.2.2.1
theorem dX0_fill_55 : decode cX0_fill 55 = .ok (.getfield 14, 3) := gd_X0_fill_37.2.2.2.2.2.2.2.2.2
theorem gd_X0_fill_58 : decode cX0_fill 58 = .ok (.getfield 42, 3) ∧ decode cX0_fill 61 = .ok (.iload 5, 2) ∧ decode cX0_fill 63 = .ok (.aload_n 0, 1) ∧ decode cX0_fill 64 = .ok (.getfield 14, 3) ∧ decode cX0_fill 67 = .ok (.getfield 46, 3) ∧ decode cX0_fill 70 = .ok (.imul, 1) ∧ decode cX0_fill 71 = .ok (.aload_n 0, 1) ∧ decode cX0_fill 72 = .ok (.getfield 14, 3) ∧ decode cX0_fill 75 = .ok (.getfield 49, 3) ∧ decode cX0_fill 78 = .ok (.iload 5, 2) := by decide +kernel
theorem dX0_fill_58 : decode cX0_fill 58 = .ok (.getfield 42, 3) := gd_X0_fill_58.1
theorem dX0_fill_61 : decode cX0_fill 61 = .ok (.iload 5, 2) := gd_X0_fill_58.2.1
theorem dX0_fill_63 : decode cX0_fill 63 = .ok (.aload_n 0, 1) := gd_X0_fill_58.2.2.1
theorem dX0_fill_64 : decode cX0_fill 64 = .ok (.getfield 14, 3) := gd_X0_fill_58.2.2.2.1
theorem dX0_fill_67 : decode cX0_fill 67 = .ok (.getfield 46, 3) := gd_X0_fill_58.2.2.2.2.1
theorem dX0_fill_70 : decode cX0_fill 70 = .ok (.imul, 1) := gd_X0_fill_58.2.2.2.2.2.1
theorem dX0_fill_71 : decode cX0_fill 71 = .ok (.aload_n 0, 1) := gd_X0_fill_58.2.2.2.2.2.2.1
theorem dX0_fill_72 : decode cX0_fill 72 = .ok (.getfield 14, 3) := gd_X0_fill_58.2.2.2.2.2.2.2.1
theorem dX0_fill_75 : decode cX0_fill 75 = .ok (.getfield 49, 3) := gd_X0_fill_58.2.2.2.2.2.2.2.2.1
theorem dX0_fill_78 : decode cX0_fill 78 = .ok (.iload 5, 2) := gd_X0_fill_58.2.2.2.2.2.2.2.2.2
theorem gd_X0_fill_80 : decode cX0_fill 80 = .ok (.iaload, 1) ∧ decode cX0_fill 81 = .ok (.invokevirtual 52, 3) ∧ decode cX0_fill 84 = .ok (.goto 42, 3) ∧ decode cX0_fill 87 = .ok (.aload_n 0, 1) ∧ decode cX0_fill 88 = .ok (.getfield 24, 3) ∧ decode cX0_fill 91 = .ok (.iload 4, 2) ∧ decode cX0_fill 93 = .ok (.iconst 1, 1) ∧ decode cX0_fill 94 = .ok (.isub, 1) ∧ decode cX0_fill 95 = .ok (.bipush 100, 2) ∧ decode cX0_fill 97 = .ok (.imul, 1) := by decide +kernel
theorem dX0_fill_80 : decode cX0_fill 80 = .ok (.iaload, 1) := gd_X0_fill_80.1
theorem dX0_fill_81 : decode cX0_fill 81 = .ok (.invokevirtual 52, 3) := gd_X0_fill_80.2.1
theorem dX0_fill_84 : decode cX0_fill 84 = .ok (.goto 42, 3) := gd_X0_fill_80.2.2.1
theorem dX0_fill_87 : decode cX0_fill 87 = .ok (.aload_n 0, 1) := gd_X0_fill_80.2.2.2.1
theorem dX0_fill_88 : decode cX0_fill 88 = .ok (.getfield 24, 3) := gd_X0_fill_80.2.2.2.2.1
theorem dX0_fill_91 : decode cX0_fill 91 = .ok (.iload 4, 2) := gd_X0_fill_80.2.2.2.2.2.1
theorem dX0_fill_93 : decode cX0_fill 93 = .ok (.iconst 1, 1) := gd_X0_fill_80.2.2.2.2.2.2.1
theorem dX0_fill_94 : decode cX0_fill 94 = .ok (.isub, 1) := gd_X0_fill_80.2.2.2.2.2.2.2.1
theorem dX0_fill_95 : decode cX0_fill 95 = .ok (.bipush 100, 2) := gd_X0_fill_80.2.2.2.2.2.2.2.2.1
theorem dX0_fill_97 : decode cX0_fill 97 = .ok (.imul, 1) := gd_X0_fill_80.2.2.2.2.2.2.2.2.2
theorem gd_X0_fill_98 : decode cX0_fill 98 = .ok (.iload 5, 2) ∧ decode cX0_fill 100 = .ok (.iadd, 1) ∧ decode cX0_fill 101 = .ok (.aload_n 3, 1) ∧ decode cX0_fill 102 = .ok (.aload_n 2, 1) ∧ decode cX0_fill 103 = .ok (.iload 4, 2) ∧ decode cX0_fill 105 = .ok (.iconst 1, 1) ∧ decode cX0_fill 106 = .ok (.isub, 1) ∧ decode cX0_fill 107 = .ok (.aaload, 1) ∧ decode cX0_fill 108 = .ok (.aload_n 0, 1) ∧ decode cX0_fill 109 = .ok (.iload 4, 2) := by decide +kernel
theorem dX0_fill_98 : decode cX0_fill 98 = .ok (.iload 5, 2) := gd_X0_fill_98.1
theorem dX0_fill_100 : decode cX0_fill 100 = .ok (.iadd, 1) := gd_X0_fill_98.2.1
theorem dX0_fill_101 : decode cX0_fill 101 = .ok (.aload_n 3, 1) := gd_X0_fill_98.2.2.1
theorem dX0_fill_102 : decode cX0_fill 102 = .ok (.aload_n 2, 1) := gd_X0_fill_98.2.2.2.1
theorem dX0_fill_103 : decode cX0_fill 103 = .ok (.iload 4, 2) := gd_X0_fill_98.2.2.2.2.1
theorem dX0_fill_105 : decode cX0_fill 105 = .ok (.iconst 1, 1) := gd_X0_fill_98.2.2.2.2.2.1
theorem dX0_fill_106 : decode cX0_fill 106 = .ok (.isub, 1) := gd_X0_fill_98.2.2.2.2.2.2.1
theorem dX0_fill_107 : decode cX0_fill 107 = .ok (.aaload, 1) := gd_X0_fill_98.2.2.2.2.2.2.2.1
theorem dX0_fill_108 : decode cX0_fill 108 = .ok (.aload_n 0, 1) := gd_X0_fill_98.2.2.2.2.2.2.2.2.1
theorem dX0_fill_109 : decode cX0_fill 109 = .ok (.iload 4, 2) := gd_X0_fill_98.2.2.2.2.2.2.2.2.2
theorem gd_X0_fill_111 : decode cX0_fill 111 = .ok (.iconst 1, 1) ∧ decode cX0_fill 112 = .ok (.isub, 1) ∧ decode cX0_fill 113 = .ok (.iload 5, 2) ∧ decode cX0_fill 115 = .ok (.invokevirtual 56, 3) ∧ decode cX0_fill 118 = .ok (.aload_n 0, 1) ∧ decode cX0_fill 119 = .ok (.getfield 32, 3) ∧ decode cX0_fill 122 = .ok (.invokevirtual 60, 3) ∧ decode cX0_fill 125 = .ok (.lastore, 1) ∧ decode cX0_fill 126 = .ok (.new 9, 3) ∧ decode cX0_fill 129 = .ok (.dup, 1) := by decide +kernel
theorem dX0_fill_111 : decode cX0_fill 111 = .ok (.iconst 1, 1) := gd_X0_fill_111.1
theorem dX0_fill_112 : decode cX0_fill 112 = .ok (.isub, 1) := gd_X0_fill_111.2.1
theorem dX0_fill_113 : decode cX0_fill 113 = .ok (.iload 5, 2) := gd_X0_fill_111.2.2.1
theorem dX0_fill_115 : decode cX0_fill 115 = .ok (.invokevirtual 56, 3) := gd_X0_fill_111.2.2.2.1
theorem dX0_fill_118 : decode cX0_fill 118 = .ok (.aload_n 0, 1) := gd_X0_fill_111.2.2.2.2.1
theorem dX0_fill_119 : decode cX0_fill 119 = .ok (.getfield 32, 3) := gd_X0_fill_111.2.2.2.2.2.1
theorem dX0_fill_122 : decode cX0_fill 122 = .ok (.invokevirtual 60, 3) := gd_X0_fill_111.2.2.2.2.2.2.1
theorem dX0_fill_125 : decode cX0_fill 125 = .ok (.lastore, 1) := gd_X0_fill_111.2.2.2.2.2.2.2.1
theorem dX0_fill_126 : decode cX0_fill 126 = .ok (.new 9, 3) := gd_X0_fill_111.2.2.2.2.2.2.2.2.1
theorem dX0_fill_129 : decode cX0_fill 129 = .ok (.dup, 1) := gd_X0_fill_111.2.2.2.2.2.2.2.2.2
theorem gd_X0_fill_130 : decode cX0_fill 130 = .ok (.aload_n 0, 1) ∧ decode cX0_fill 131 = .ok (.getfield 32, 3) ∧ decode cX0_fill 134 = .ok (.getfield 38, 3) ∧ decode cX0_fill 137 = .ok (.bipush 24, 2) ∧ decode cX0_fill 139 = .ok (.invokespecial 11, 3) ∧ decode cX0_fill 142 = .ok (.astore 6, 2) ∧ decode cX0_fill 144 = .ok (.aload 6, 2) ∧ decode cX0_fill 146 = .ok (.aload_n 0, 1) ∧ decode cX0_fill 147 = .ok (.getfield 32, 3) ∧ decode cX0_fill 150 = .ok (.invokevirtual 66, 3) := by decide +kernel
theorem dX0_fill_130 : decode cX0_fill 130 = .ok (.aload_n 0, 1) := gd_X0_fill_130.1
theorem dX0_fill_131 : decode cX0_fill 131 = .ok (.getfield 32, 3) := gd_X0_fill_130.2.1
theorem dX0_fill_134 : decode cX0_fill 134 = .ok (.getfield 38, 3) := gd_X0_fill_130.2.2.1
theorem dX0_fill_137 : decode cX0_fill 137 = .ok (.bipush 24, 2) := gd_X0_fill_130.2.2.2.1
theorem dX0_fill_139 : decode cX0_fill 139 = .ok (.invokespecial 11, 3) := gd_X0_fill_130.2.2.2.2.1
theorem dX0_fill_142 : decode cX0_fill 142 = .ok (.astore 6, 2) := gd_X0_fill_130.2.2.2.2.2.1
theorem dX0_fill_144 : decode cX0_fill 144 = .ok (.aload 6, 2) := gd_X0_fill_130.2.2.2.2.2.2.1
theorem dX0_fill_146 : decode cX0_fill 146 = .ok (.aload_n 0, 1) := gd_X0_fill_130.2.2.2.2.2.2.2.1
theorem dX0_fill_147 : decode cX0_fill 147 = .ok (.getfield 32, 3) := gd_X0_fill_130.2.2.2.2.2.2.2.2.1
theorem dX0_fill_150 : decode cX0_fill 150 = .ok (.invokevirtual 66, 3) := gd_X0_fill_130.2.2.2.2.2.2.2.2.2
theorem gd_X0_fill_153 : decode cX0_fill 153 = .ok (.aload_n 0, 1) ∧ decode cX0_fill 154 = .ok (.getfield 20, 3) ∧ decode cX0_fill 157 = .ok (.iload 4, 2) ∧ decode cX0_fill 159 = .ok (.bipush 100, 2) ∧ decode cX0_fill 161 = .ok (.imul, 1) ∧ decode cX0_fill 162 = .ok (.iload 5, 2) ∧ decode cX0_fill 164 = .ok (.iadd, 1) ∧ decode cX0_fill 165 = .ok (.aload 6, 2) ∧ decode cX0_fill 167 = .ok (.aastore, 1) ∧ decode cX0_fill 168 = .ok (.iinc 5 1, 3) := by decide +kernel
theorem dX0_fill_153 : decode cX0_fill 153 = .ok (.aload_n 0, 1) := gd_X0_fill_153.1
theorem dX0_fill_154 : decode cX0_fill 154 = .ok (.getfield 20, 3) := gd_X0_fill_153.2.1
theorem dX0_fill_157 : decode cX0_fill 157 = .ok (.iload 4, 2) := gd_X0_fill_153.2.2.1
theorem dX0_fill_159 : decode cX0_fill 159 = .ok (.bipush 100, 2) := gd_X0_fill_153.2.2.2.1
theorem dX0_fill_161 : decode cX0_fill 161 = .ok (.imul, 1) := gd_X0_fill_153.2.2.2.2.1
theorem dX0_fill_162 : decode cX0_fill 162 = .ok (.iload 5, 2) := gd_X0_fill_153.2.2.2.2.2.1
theorem dX0_fill_164 : decode cX0_fill 164 = .ok (.iadd, 1) := gd_X0_fill_153.2.2.2.2.2.2.1
theorem dX0_fill_165 : decode cX0_fill 165 = .ok (.aload 6, 2) := gd_X0_fill_153.2.2.2.2.2.2.2.1
theorem dX0_fill_167 : decode cX0_fill 167 = .ok (.aastore, 1) := gd_X0_fill_153.2.2.2.2.2.2.2.2.1
theorem dX0_fill_168 : decode cX0_fill 168 = .ok (.iinc 5 1, 3) := gd_X0_fill_153.2.2.2.2.2.2.2.2.2
theorem gd_X0_fill_171 : decode cX0_fill 171 = .ok (.goto (-146), 3) ∧ decode cX1_init 0 = .ok (.aload_n 0, 1) ∧ decode cX1_init 1 = .ok (.invokespecial 1, 3) ∧ decode cX1_init 4 = .ok (.aload_n 0, 1) ∧ decode cX1_init 5 = .ok (.iconst 0, 1) ∧ decode cX1_init 6 = .ok (.newarray .byte, 2) ∧ decode cX1_init 8 = .ok (.putfield 7, 3) ∧ decode cX1_init 11 = .ok (.aload_n 0, 1) ∧ decode cX1_init 12 = .ok (.iconst 0, 1) ∧ decode cX1_init 13 = .ok (.newarray .byte, 2) := by decide +kernel
theorem dX0_fill_171 : decode cX0_fill 171 = .ok (.goto (-146), 3) := gd_X0_fill_171.1
theorem dX1_init_0 : decode cX1_init 0 = .ok (.aload_n 0, 1) := gd_X0_fill_171.2.1
theorem dX1_init_1 : decode cX1_init 1 = .ok (.invokespecial 1, 3) := gd_X0_fill_171.2.2.1
theorem dX1_init_4 : decode cX1_init 4 = .ok (.aload_n 0, 1) := gd_X0_fill_171.2.2.2.1
theorem dX1_init_5 : decode cX1_init 5 = .ok (.iconst 0, 1) := gd_X0_fill_171.2.2.2.2.1
theorem dX1_init_6 : decode cX1_init 6 = .ok (.newarray .byte, 2) := gd_X0_fill_171.2.2.2.2.2.1
theorem dX1_init_8 : decode cX1_init 8 = .ok (.putfield 7, 3) := gd_X0_fill_171.2.2.2.2.2.2.1
theorem dX1_init_11 : decode cX1_init 11 = .ok (.aload_n 0, 1) := gd_X0_fill_171.2.2.2.2.2.2.2.1
theorem dX1_init_12 : decode cX1_init 12 = .ok (.iconst 0, 1) := gd_X0_fill_171.2.2.2.2.2.2.2.2.1
theorem dX1_init_13 : decode cX1_init 13 = .ok (.newarray .byte, 2) := gd_X0_fill_171.2.2.2.2.2.2.2.2.2
theorem gd_X1_init_15 : decode cX1_init 15 = .ok (.putfield 13, 3) ∧ decode cX1_init 18 = .ok (.aload_n 0, 1) ∧ decode cX1_init 19 = .ok (.iconst 0, 1) ∧ decode cX1_init 20 = .ok (.putfield 16, 3) ∧ decode cX1_init 23 = .ok (.aload_n 0, 1) ∧ decode cX1_init 24 = .ok (.iconst 0, 1) ∧ decode cX1_init 25 = .ok (.putfield 20, 3) ∧ decode cX1_init 28 = .ok (.aload_n 0, 1) ∧ decode cX1_init 29 = .ok (.aload_n 1, 1) ∧ decode cX1_init 30 = .ok (.putfield 23, 3) := by decide +kernel
theorem dX1_init_15 : decode cX1_init 15 = .ok (.putfield 13, 3) := gd_X1_init_15.1
theorem dX1_init_18 : decode cX1_init 18 = .ok (.aload_n 0, 1) := gd_X1_init_15.2.1
theorem dX1_init_19 : decode cX1_init 19 = .ok (.iconst 0, 1) := gd_X1_init_15.2.2.1
theorem dX1_init_20 : decode cX1_init 20 = .ok (.putfield 16, 3) := gd_X1_init_15.2.2.2.1
theorem dX1_init_23 : decode cX1_init 23 = .ok (.aload_n 0, 1) := gd_X1_init_15.2.2.2.2.1
theorem dX1_init_24 : decode cX1_init 24 = .ok (.iconst 0, 1) := gd_X1_init_15.2.2.2.2.2.1
theorem dX1_init_25 : decode cX1_init 25 = .ok (.putfield 20, 3) := gd_X1_init_15.2.2.2.2.2.2.1
theorem dX1_init_28 : decode cX1_init 28 = .ok (.aload_n 0, 1) := gd_X1_init_15.2.2.2.2.2.2.2.1
theorem dX1_init_29 : decode cX1_init 29 = .ok (.aload_n 1, 1) := gd_X1_init_15.2.2.2.2.2.2.2.2.1
theorem dX1_init_30 : decode cX1_init 30 = .ok (.putfield 23, 3) := gd_X1_init_15.2.2.2.2.2.2.2.2.2
theorem gd_X1_init_33 : decode cX1_init 33 = .ok (.aload_n 0, 1) ∧ decode cX1_init 34 = .ok (.aload_n 2, 1) ∧ decode cX1_init 35 = .ok (.putfield 26, 3) ∧ decode cX1_init 38 = .ok (.return_, 1) ∧ decode cX4_read 61 = .ok (.aload_n 0, 1) ∧ decode cX4_read 62 = .ok (.ldc 49, 2) ∧ decode cX4_read 64 = .ok (.invokevirtual 51, 3) ∧ decode cX4_read 67 = .ok (.ifCond .eq 11, 3) ∧ decode cX4_read 70 = .ok (.aload_n 0, 1) ∧ decode cX4_read 71 = .ok (.aload_n 3, 1) := by decide +kernel
theorem dX1_init_33 : decode cX1_init 33 = .ok (.aload_n 0, 1) := gd_X1_init_33.1
theorem dX1_init_34 : decode cX1_init 34 = .ok (.aload_n 2, 1) := gd_X1_init_33.2.1
theorem dX1_init_35 : decode cX1_init 35 = .ok (.putfield 26, 3) := gd_X1_init_33.2.2.1
theorem dX1_init_38 : decode cX1_init 38 = .ok (.return_, 1) := gd_X1_init_33.2.2.2.1
theorem dX4_read_61 : decode cX4_read 61 = .ok (.aload_n 0, 1) := gd_X1_init_33.2.2.2.2.1
theorem dX4_read_62 : decode cX4_read 62 = .ok (.ldc 49, 2) := gd_X1_init_33.2.2.2.2.2.1
theorem dX4_read_64 : decode cX4_read 64 = .ok (.invokevirtual 51, 3) := gd_X1_init_33.2.2.2.2.2.2.1
theorem dX4_read_67 : decode cX4_read 67 = .ok (.ifCond .eq 11, 3) := gd_X1_init_33.2.2.2.2.2.2.2.1
theorem dX4_read_70 : decode cX4_read 70 = .ok (.aload_n 0, 1) := gd_X1_init_33.2.2.2.2.2.2.2.2.1
theorem dX4_read_71 : decode cX4_read 71 = .ok (.aload_n 3, 1) := gd_X1_init_33.2.2.2.2.2.2.2.2.2
theorem gd_X4_read_72 : decode cX4_read 72 = .ok (.invokevirtual 55, 3) ∧ decode cX4_read 75 = .ok (.goto 60, 3) ∧ decode cX4_read 78 = .ok (.aload_n 0, 1) ∧ decode cX4_read 79 = .ok (.ldc 59, 2) ∧ decode cX4_read 81 = .ok (.invokevirtual 51, 3) ∧ decode cX4_read 84 = .ok (.ifCond .eq 11, 3) ∧ decode cX4_read 87 = .ok (.aload_n 0, 1) ∧ decode cX4_read 88 = .ok (.aload_n 3, 1) ∧ decode cX4_read 89 = .ok (.invokevirtual 61, 3) ∧ decode cX4_read 92 = .ok (.goto 43, 3) := by decide +kernel
theorem dX4_read_72 : decode cX4_read 72 = .ok (.invokevirtual 55, 3) := gd_X4_read_72.1
theorem dX4_read_75 : decode cX4_read 75 = .ok (.goto 60, 3) := gd_X4_read_72.2.1
theorem dX4_read_78 : decode cX4_read 78 = .ok (.aload_n 0, 1) := gd_X4_read_72.2.2.1
theorem dX4_read_79 : decode cX4_read 79 = .ok (.ldc 59, 2) := gd_X4_read_72.2.2.2.1
theorem dX4_read_81 : decode cX4_read 81 = .ok (.invokevirtual 51, 3) := gd_X4_read_72.2.2.2.2.1
theorem dX4_read_84 : decode cX4_read 84 = .ok (.ifCond .eq 11, 3) := gd_X4_read_72.2.2.2.2.2.1
theorem dX4_read_87 : decode cX4_read 87 = .ok (.aload_n 0, 1) := gd_X4_read_72.2.2.2.2.2.2.1
theorem dX4_read_88 : decode cX4_read 88 = .ok (.aload_n 3, 1) := gd_X4_read_72.2.2.2.2.2.2.2.1
theorem dX4_read_89 : decode cX4_read 89 = .ok (.invokevirtual 61, 3) := gd_X4_read_72.2.2.2.2.2.2.2.2.1
theorem dX4_read_92 : decode cX4_read 92 = .ok (.goto 43, 3) := gd_X4_read_72.2.2.2.2.2.2.2.2.2
theorem gd_X4_read_95 : decode cX4_read 95 = .ok (.aload_n 0, 1) ∧ decode cX4_read 96 = .ok (.ldc 64, 2) ∧ decode cX4_read 98 = .ok (.invokevirtual 51, 3) ∧ decode cX4_read 101 = .ok (.ifCond .eq 11, 3) ∧ decode cX4_read 104 = .ok (.aload_n 0, 1) ∧ decode cX4_read 105 = .ok (.aload_n 3, 1) ∧ decode cX4_read 106 = .ok (.invokevirtual 66, 3) ∧ decode cX4_read 109 = .ok (.goto 26, 3) ∧ decode cX4_read 112 = .ok (.aload_n 0, 1) ∧ decode cX4_read 113 = .ok (.ldc 69, 2) := by decide +kernel
theorem dX4_read_95 : decode cX4_read 95 = .ok (.aload_n 0, 1) := gd_X4_read_95.1
theorem dX4_read_96 : decode cX4_read 96 = .ok (.ldc 64, 2) := gd_X4_read_95.2.1
theorem dX4_read_98 : decode cX4_read 98 = .ok (.invokevirtual 51, 3) := gd_X4_read_95.2.2.1
theorem dX4_read_101 : decode cX4_read 101 = .ok (.ifCond .eq 11, 3) := gd_X4_read_95.2.2.2.1
theorem dX4_read_104 : decode cX4_read 104 = .ok (.aload_n 0, 1) := gd_X4_read_95.2.2.2.2.1
theorem dX4_read_105 : decode cX4_read 105 = .ok (.aload_n 3, 1) := gd_X4_read_95.2.2.2.2.2.1
theorem dX4_read_106 : decode cX4_read 106 = .ok (.invokevirtual 66, 3) := gd_X4_read_95.2.2.2.2.2.2.1
theorem dX4_read_109 : decode cX4_read 109 = .ok (.goto 26, 3) := gd_X4_read_95.2.2.2.2.2.2.2.1
theorem dX4_read_112 : decode cX4_read 112 = .ok (.aload_n 0, 1) := gd_X4_read_95.2.2.2.2.2.2.2.2.1
theorem dX4_read_113 : decode cX4_read 113 = .ok (.ldc 69, 2) := gd_X4_read_95.2.2.2.2.2.2.2.2.2
theorem gd_X4_read_115 : decode cX4_read 115 = .ok (.invokevirtual 51, 3) ∧ decode cX4_read 118 = .ok (.ifCond .eq 11, 3) ∧ decode cX4_read 121 = .ok (.aload_n 0, 1) ∧ decode cX4_read 122 = .ok (.aload_n 3, 1) ∧ decode cX4_read 123 = .ok (.invokevirtual 71, 3) ∧ decode cX4_read 126 = .ok (.goto 9, 3) ∧ decode cX4_read 129 = .ok (.aload_n 0, 1) ∧ decode cX4_read 130 = .ok (.iconst 1, 1) ∧ decode cX4_read 131 = .ok (.invokevirtual 74, 3) ∧ decode cX4_read 134 = .ok (.pop, 1) := by decide +kernel
theorem dX4_read_115 : decode cX4_read 115 = .ok (.invokevirtual 51, 3) := gd_X4_read_115.1
theorem dX4_read_118 : decode cX4_read 118 = .ok (.ifCond .eq 11, 3) := gd_X4_read_115.2.1
theorem dX4_read_121 : decode cX4_read 121 = .ok (.aload_n 0, 1) := gd_X4_read_115.2.2.1
theorem dX4_read_122 : decode cX4_read 122 = .ok (.aload_n 3, 1) := gd_X4_read_115.2.2.2.1
theorem dX4_read_123 : decode cX4_read 123 = .ok (.invokevirtual 71, 3) := gd_X4_read_115.2.2.2.2.1
theorem dX4_read_126 : decode cX4_read 126 = .ok (.goto 9, 3) := gd_X4_read_115.2.2.2.2.2.1
theorem dX4_read_129 : decode cX4_read 129 = .ok (.aload_n 0, 1) := gd_X4_read_115.2.2.2.2.2.2.1
theorem dX4_read_130 : decode cX4_read 130 = .ok (.iconst 1, 1) := gd_X4_read_115.2.2.2.2.2.2.2.1
theorem dX4_read_131 : decode cX4_read 131 = .ok (.invokevirtual 74, 3) := gd_X4_read_115.2.2.2.2.2.2.2.2.1
theorem dX4_read_134 : decode cX4_read 134 = .ok (.pop, 1) := gd_X4_read_115.2.2.2.2.2.2.2.2.2
theorem gd_X4_read_135 : decode cX4_read 135 = .ok (.iinc 4 1, 3) ∧ decode cX4_read 138 = .ok (.goto (-105), 3) ∧ decode cX4_read 141 = .ok (.return_, 1) ∧ decode cX4_readLaw 0 = .ok (.aload_n 0, 1) ∧ decode cX4_readLaw 1 = .ok (.aload_n 1, 1) ∧ decode cX4_readLaw 2 = .ok (.getfield 123, 3) ∧ decode cX4_readLaw 5 = .ok (.bipush 40, 2) ∧ decode cX4_readLaw 7 = .ok (.if_icmp .ge 7, 3) ∧ decode cX4_readLaw 10 = .ok (.iconst 1, 1) ∧ decode cX4_readLaw 11 = .ok (.goto 4, 3) := by decide +kernel
theorem dX4_read_135 : decode cX4_read 135 = .ok (.iinc 4 1, 3) := gd_X4_read_135.1
theorem dX4_read_138 : decode cX4_read 138 = .ok (.goto (-105), 3) := gd_X4_read_135.2.1
theorem dX4_read_141 : decode cX4_read 141 = .ok (.return_, 1) := gd_X4_read_135.2.2.1
theorem dX4_readLaw_0 : decode cX4_readLaw 0 = .ok (.aload_n 0, 1) := gd_X4_read_135.2.2.2.1
theorem dX4_readLaw_1 : decode cX4_readLaw 1 = .ok (.aload_n 1, 1) := gd_X4_read_135.2.2.2.2.1
theorem dX4_readLaw_2 : decode cX4_readLaw 2 = .ok (.getfield 123, 3) := gd_X4_read_135.2.2.2.2.2.1
theorem dX4_readLaw_5 : decode cX4_readLaw 5 = .ok (.bipush 40, 2) := gd_X4_read_135.2.2.2.2.2.2.1
theorem dX4_readLaw_7 : decode cX4_readLaw 7 = .ok (.if_icmp .ge 7, 3) := gd_X4_read_135.2.2.2.2.2.2.2.1
theorem dX4_readLaw_10 : decode cX4_readLaw 10 = .ok (.iconst 1, 1) := gd_X4_read_135.2.2.2.2.2.2.2.2.1
theorem dX4_readLaw_11 : decode cX4_readLaw 11 = .ok (.goto 4, 3) := gd_X4_read_135.2.2.2.2.2.2.2.2.2
theorem gd_X4_readLaw_14 : decode cX4_readLaw 14 = .ok (.iconst 0, 1) ∧ decode cX4_readLaw 15 = .ok (.invokevirtual 90, 3) ∧ decode cX4_readLaw 18 = .ok (.ifCond .eq 11, 3) ∧ decode cX4_readLaw 21 = .ok (.aload_n 0, 1) ∧ decode cX4_readLaw 22 = .ok (.iconst 0, 1) ∧ decode cX4_readLaw 23 = .ok (.invokevirtual 111, 3) ∧ decode cX4_readLaw 26 = .ok (.ifCond .ne 4, 3) ∧ decode cX4_readLaw 29 = .ok (.return_, 1) ∧ decode cX4_readLaw 30 = .ok (.aload_n 0, 1) ∧ decode cX4_readLaw 31 = .ok (.invokevirtual 126, 3) := by decide +kernel
theorem dX4_readLaw_14 : decode cX4_readLaw 14 = .ok (.iconst 0, 1) := gd_X4_readLaw_14.1
theorem dX4_readLaw_15 : decode cX4_readLaw 15 = .ok (.invokevirtual 90, 3) := gd_X4_readLaw_14.2.1
theorem dX4_readLaw_18 : decode cX4_readLaw 18 = .ok (.ifCond .eq 11, 3) := gd_X4_readLaw_14.2.2.1
theorem dX4_readLaw_21 : decode cX4_readLaw 21 = .ok (.aload_n 0, 1) := gd_X4_readLaw_14.2.2.2.1
theorem dX4_readLaw_22 : decode cX4_readLaw 22 = .ok (.iconst 0, 1) := gd_X4_readLaw_14.2.2.2.2.1
theorem dX4_readLaw_23 : decode cX4_readLaw 23 = .ok (.invokevirtual 111, 3) := gd_X4_readLaw_14.2.2.2.2.2.1
theorem dX4_readLaw_26 : decode cX4_readLaw 26 = .ok (.ifCond .ne 4, 3) := gd_X4_readLaw_14.2.2.2.2.2.2.1
theorem dX4_readLaw_29 : decode cX4_readLaw 29 = .ok (.return_, 1) := gd_X4_readLaw_14.2.2.2.2.2.2.2.1
theorem dX4_readLaw_30 : decode cX4_readLaw 30 = .ok (.aload_n 0, 1) := gd_X4_readLaw_14.2.2.2.2.2.2.2.2.1
theorem dX4_readLaw_31 : decode cX4_readLaw 31 = .ok (.invokevirtual 126, 3) := gd_X4_readLaw_14.2.2.2.2.2.2.2.2.2
theorem gd_X4_readLaw_34 : decode cX4_readLaw 34 = .ok (.astore_n 2, 1) ∧ decode cX4_readLaw 35 = .ok (.aload_n 0, 1) ∧ decode cX4_readLaw 36 = .ok (.invokevirtual 108, 3) ∧ decode cX4_readLaw 39 = .ok (.ifCond .eq 11, 3) ∧ decode cX4_readLaw 42 = .ok (.aload_n 0, 1) ∧ decode cX4_readLaw 43 = .ok (.iconst 1, 1) ∧ decode cX4_readLaw 44 = .ok (.invokevirtual 111, 3) ∧ decode cX4_readLaw 47 = .ok (.ifCond .ne 4, 3) ∧ decode cX4_readLaw 50 = .ok (.return_, 1) ∧ decode cX4_readLaw 51 = .ok (.new 130, 3) := by decide +kernel
theorem dX4_readLaw_34 : decode cX4_readLaw 34 = .ok (.astore_n 2, 1) := gd_X4_readLaw_34.1
theorem dX4_readLaw_35 : decode cX4_readLaw 35 = .ok (.aload_n 0, 1) := gd_X4_readLaw_34.2.1
theorem dX4_readLaw_36 : decode cX4_readLaw 36 = .ok (.invokevirtual 108, 3) := gd_X4_readLaw_34.2.2.1
theorem dX4_readLaw_39 : decode cX4_readLaw 39 = .ok (.ifCond .eq 11, 3) := gd_X4_readLaw_34.2.2.2.1
theorem dX4_readLaw_42 : decode cX4_readLaw 42 = .ok (.aload_n 0, 1) := gd_X4_readLaw_34.2.2.2.2.1
theorem dX4_readLaw_43 : decode cX4_readLaw 43 = .ok (.iconst 1, 1) := gd_X4_readLaw_34.2.2.2.2.2.1
theorem dX4_readLaw_44 : decode cX4_readLaw 44 = .ok (.invokevirtual 111, 3) := gd_X4_readLaw_34.2.2.2.2.2.2.1
theorem dX4_readLaw_47 : decode cX4_readLaw 47 = .ok (.ifCond .ne 4, 3) := gd_X4_readLaw_34.2.2.2.2.2.2.2.1
theorem dX4_readLaw_50 : decode cX4_readLaw 50 = .ok (.return_, 1) := gd_X4_readLaw_34.2.2.2.2.2.2.2.2.1
theorem dX4_readLaw_51 : decode cX4_readLaw 51 = .ok (.new 130, 3) := gd_X4_readLaw_34.2.2.2.2.2.2.2.2.2
theorem gd_X4_readLaw_54 : decode cX4_readLaw 54 = .ok (.dup, 1) ∧ decode cX4_readLaw 55 = .ok (.aload_n 2, 1) ∧ decode cX4_readLaw 56 = .ok (.aload_n 0, 1) ∧ decode cX4_readLaw 57 = .ok (.invokevirtual 126, 3) ∧ decode cX4_readLaw 60 = .ok (.invokespecial 132, 3) ∧ decode cX4_readLaw 63 = .ok (.astore_n 3, 1) ∧ decode cX4_readLaw 64 = .ok (.iconst 0, 1) ∧ decode cX4_readLaw 65 = .ok (.istore 4, 2) ∧ decode cX4_readLaw 67 = .ok (.iload 4, 2) ∧ decode cX4_readLaw 69 = .ok (.iconst 5, 1) := by decide +kernel
theorem dX4_readLaw_54 : decode cX4_readLaw 54 = .ok (.dup, 1) := gd_X4_readLaw_54.1
theorem dX4_readLaw_55 : decode cX4_readLaw 55 = .ok (.aload_n 2, 1) := gd_X4_readLaw_54.2.1
theorem dX4_readLaw_56 : decode cX4_readLaw 56 = .ok (.aload_n 0, 1) := gd_X4_readLaw_54.2.2.1
theorem dX4_readLaw_57 : decode cX4_readLaw 57 = .ok (.invokevirtual 126, 3) := gd_X4_readLaw_54.2.2.2.1
theorem dX4_readLaw_60 : decode cX4_readLaw 60 = .ok (.invokespecial 132, 3) := gd_X4_readLaw_54.2.2.2.2.1
theorem dX4_readLaw_63 : decode cX4_readLaw 63 = .ok (.astore_n 3, 1) := gd_X4_readLaw_54.2.2.2.2.2.1
theorem dX4_readLaw_64 : decode cX4_readLaw 64 = .ok (.iconst 0, 1) := gd_X4_readLaw_54.2.2.2.2.2.2.1
theorem dX4_readLaw_65 : decode cX4_readLaw 65 = .ok (.istore 4, 2) := gd_X4_readLaw_54.2.2.2.2.2.2.2.1
theorem dX4_readLaw_67 : decode cX4_readLaw 67 = .ok (.iload 4, 2) := gd_X4_readLaw_54.2.2.2.2.2.2.2.2.1
theorem dX4_readLaw_69 : decode cX4_readLaw 69 = .ok (.iconst 5, 1) := gd_X4_readLaw_54.2.2.2.2.2.2.2.2.2
theorem gd_X4_readLaw_70 : decode cX4_readLaw 70 = .ok (.if_icmp .ge 39, 3) ∧ decode cX4_readLaw 73 = .ok (.aload_n 0, 1) ∧ decode cX4_readLaw 74 = .ok (.getfield 9, 3) ∧ decode cX4_readLaw 77 = .ok (.ifCond .ne 32, 3) ∧ decode cX4_readLaw 80 = .ok (.aload_n 0, 1) ∧ decode cX4_readLaw 81 = .ok (.invokevirtual 46, 3) ∧ decode cX4_readLaw 84 = .ok (.aload_n 0, 1) ∧ decode cX4_readLaw 85 = .ok (.getfield 28, 3) ∧ decode cX4_readLaw 88 = .ok (.iconst 3, 1) ∧ decode cX4_readLaw 89 = .ok (.if_icmp .ne 9, 3) := by decide +kernel
theorem dX4_readLaw_70 : decode cX4_readLaw 70 = .ok (.if_icmp .ge 39, 3) := gd_X4_readLaw_70.1
theorem dX4_readLaw_73 : decode cX4_readLaw 73 = .ok (.aload_n 0, 1) := gd_X4_readLaw_70.2.1
theorem dX4_readLaw_74 : decode cX4_readLaw 74 = .ok (.getfield 9, 3) := gd_X4_readLaw_70.2.2.1
theorem dX4_readLaw_77 : decode cX4_readLaw 77 = .ok (.ifCond .ne 32, 3) := gd_X4_readLaw_70.2.2.2.1
theorem dX4_readLaw_80 : decode cX4_readLaw 80 = .ok (.aload_n 0, 1) := gd_X4_readLaw_70.2.2.2.2.1
theorem dX4_readLaw_81 : decode cX4_readLaw 81 = .ok (.invokevirtual 46, 3) := gd_X4_readLaw_70.2.2.2.2.2.1
theorem dX4_readLaw_84 : decode cX4_readLaw 84 = .ok (.aload_n 0, 1) := gd_X4_readLaw_70.2.2.2.2.2.2.1
theorem dX4_readLaw_85 : decode cX4_readLaw 85 = .ok (.getfield 28, 3) := gd_X4_readLaw_70.2.2.2.2.2.2.2.1
theorem dX4_readLaw_88 : decode cX4_readLaw 88 = .ok (.iconst 3, 1) := gd_X4_readLaw_70.2.2.2.2.2.2.2.2.1
theorem dX4_readLaw_89 : decode cX4_readLaw 89 = .ok (.if_icmp .ne 9, 3) := gd_X4_readLaw_70.2.2.2.2.2.2.2.2.2
theorem gd_X4_readLaw_92 : decode cX4_readLaw 92 = .ok (.aload_n 1, 1) ∧ decode cX4_readLaw 93 = .ok (.aload_n 3, 1) ∧ decode cX4_readLaw 94 = .ok (.invokevirtual 135, 3) ∧ decode cX4_readLaw 97 = .ok (.return_, 1) ∧ decode cX4_readLaw 98 = .ok (.aload_n 0, 1) ∧ decode cX4_readLaw 99 = .ok (.aload_n 3, 1) ∧ decode cX4_readLaw 100 = .ok (.invokevirtual 139, 3) ∧ decode cX4_readLaw 103 = .ok (.iinc 4 1, 3) ∧ decode cX4_readLaw 106 = .ok (.goto (-39), 3) ∧ decode cX4_readLaw 109 = .ok (.return_, 1) := by decide +kernel
theorem dX4_readLaw_92 : decode cX4_readLaw 92 = .ok (.aload_n 1, 1) := gd_X4_readLaw_92.1
theorem dX4_readLaw_93 : decode cX4_readLaw 93 = .ok (.aload_n 3, 1) := gd_X4_readLaw_92.2.1
theorem dX4_readLaw_94 : decode cX4_readLaw 94 = .ok (.invokevirtual 135, 3) := gd_X4_readLaw_92.2.2.1
theorem dX4_readLaw_97 : decode cX4_readLaw 97 = .ok (.return_, 1) := gd_X4_readLaw_92.2.2.2.1
theorem dX4_readLaw_98 : decode cX4_readLaw 98 = .ok (.aload_n 0, 1) := gd_X4_readLaw_92.2.2.2.2.1
theorem dX4_readLaw_99 : decode cX4_readLaw 99 = .ok (.aload_n 3, 1) := gd_X4_readLaw_92.2.2.2.2.2.1
theorem dX4_readLaw_100 : decode cX4_readLaw 100 = .ok (.invokevirtual 139, 3) := gd_X4_readLaw_92.2.2.2.2.2.2.1
theorem dX4_readLaw_103 : decode cX4_readLaw 103 = .ok (.iinc 4 1, 3) := gd_X4_readLaw_92.2.2.2.2.2.2.2.1
theorem dX4_readLaw_106 : decode cX4_readLaw 106 = .ok (.goto (-39), 3) := gd_X4_readLaw_92.2.2.2.2.2.2.2.2.1
theorem dX4_readLaw_109 : decode cX4_readLaw 109 = .ok (.return_, 1) := gd_X4_readLaw_92.2.2.2.2.2.2.2.2.2
theorem gd_X4_readSide_0 : decode cX4_readSide 0 = .ok (.aload_n 0, 1) ∧ decode cX4_readSide 1 = .ok (.ldc 142, 2) ∧ decode cX4_readSide 3 = .ok (.invokevirtual 51, 3) ∧ decode cX4_readSide 6 = .ok (.ifCond .eq 30, 3) ∧ decode cX4_readSide 9 = .ok (.aload_n 0, 1) ∧ decode cX4_readSide 10 = .ok (.aload_n 1, 1) ∧ decode cX4_readSide 11 = .ok (.getfield 143, 3) ∧ decode cX4_readSide 14 = .ok (.ifCond .ne 7, 3) ∧ decode cX4_readSide 17 = .ok (.iconst 1, 1) ∧ decode cX4_readSide 18 = .ok (.goto 4, 3) := by decide +kernel
theorem dX4_readSide_0 : decode cX4_readSide 0 = .ok (.aload_n 0, 1) := gd_X4_readSide_0.1
theorem dX4_readSide_1 : decode cX4_readSide 1 = .ok (.ldc 142, 2) := gd_X4_readSide_0.2.1
theorem dX4_readSide_3 : decode cX4_readSide 3 = .ok (.invokevirtual 51, 3) := gd_X4_readSide_0.2.2.1
theorem dX4_readSide_6 : decode cX4_readSide 6 = .ok (.ifCond .eq 30, 3) := gd_X4_readSide_0.2.2.2.1
theorem dX4_readSide_9 : decode cX4_readSide 9 = .ok (.aload_n 0, 1) := gd_X4_readSide_0.2.2.2.2.1
theorem dX4_readSide_10 : decode cX4_readSide 10 = .ok (.aload_n 1, 1) := gd_X4_readSide_0.2.2.2.2.2.1
theorem dX4_readSide_11 : decode cX4_readSide 11 = .ok (.getfield 143, 3) := gd_X4_readSide_0.2.2.2.2.2.2.1
theorem dX4_readSide_14 : decode cX4_readSide 14 = .ok (.ifCond .ne 7, 3) := gd_X4_readSide_0.2.2.2.2.2.2.2.1
theorem dX4_readSide_17 : decode cX4_readSide 17 = .ok (.iconst 1, 1) := gd_X4_readSide_0.2.2.2.2.2.2.2.2.1
theorem dX4_readSide_18 : decode cX4_readSide 18 = .ok (.goto 4, 3) := gd_X4_readSide_0.2.2.2.2.2.2.2.2.2
theorem gd_X4_readSide_21 : decode cX4_readSide 21 = .ok (.iconst 0, 1) ∧ decode cX4_readSide 22 = .ok (.invokevirtual 147, 3) ∧ decode cX4_readSide 25 = .ok (.ifCond .eq 149, 3) ∧ decode cX4_readSide 28 = .ok (.aload_n 1, 1) ∧ decode cX4_readSide 29 = .ok (.iconst 1, 1) ∧ decode cX4_readSide 30 = .ok (.putfield 143, 3) ∧ decode cX4_readSide 33 = .ok (.goto 141, 3) ∧ decode cX4_readSide 36 = .ok (.aload_n 0, 1) ∧ decode cX4_readSide 37 = .ok (.ldc 150, 2) ∧ decode cX4_readSide 39 = .ok (.invokevirtual 51, 3) := by decide +kernel
theorem dX4_readSide_21 : decode cX4_readSide 21 = .ok (.iconst 0, 1) := gd_X4_readSide_21.1
theorem dX4_readSide_22 : decode cX4_readSide 22 = .ok (.invokevirtual 147, 3) := gd_X4_readSide_21.2.1
theorem dX4_readSide_25 : decode cX4_readSide 25 = .ok (.ifCond .eq 149, 3) := gd_X4_readSide_21.2.2.1
theorem dX4_readSide_28 : decode cX4_readSide 28 = .ok (.aload_n 1, 1) := gd_X4_readSide_21.2.2.2.1
theorem dX4_readSide_29 : decode cX4_readSide 29 = .ok (.iconst 1, 1) := gd_X4_readSide_21.2.2.2.2.1
theorem dX4_readSide_30 : decode cX4_readSide 30 = .ok (.putfield 143, 3) := gd_X4_readSide_21.2.2.2.2.2.1
theorem dX4_readSide_33 : decode cX4_readSide 33 = .ok (.goto 141, 3) := gd_X4_readSide_21.2.2.2.2.2.2.1
theorem dX4_readSide_36 : decode cX4_readSide 36 = .ok (.aload_n 0, 1) := gd_X4_readSide_21.2.2.2.2.2.2.2.1
theorem dX4_readSide_37 : decode cX4_readSide 37 = .ok (.ldc 150, 2) := gd_X4_readSide_21.2.2.2.2.2.2.2.2.1
theorem dX4_readSide_39 : decode cX4_readSide 39 = .ok (.invokevirtual 51, 3) := gd_X4_readSide_21.2.2.2.2.2.2.2.2.2
theorem gd_X4_readSide_42 : decode cX4_readSide 42 = .ok (.ifCond .eq 30, 3) ∧ decode cX4_readSide 45 = .ok (.aload_n 0, 1) ∧ decode cX4_readSide 46 = .ok (.aload_n 1, 1) ∧ decode cX4_readSide 47 = .ok (.getfield 152, 3) ∧ decode cX4_readSide 50 = .ok (.ifCond .ne 7, 3) ∧ decode cX4_readSide 53 = .ok (.iconst 1, 1) ∧ decode cX4_readSide 54 = .ok (.goto 4, 3) ∧ decode cX4_readSide 57 = .ok (.iconst 0, 1) ∧ decode cX4_readSide 58 = .ok (.invokevirtual 147, 3) ∧ decode cX4_readSide 61 = .ok (.ifCond .eq 113, 3) := by decide +kernel
theorem dX4_readSide_42 : decode cX4_readSide 42 = .ok (.ifCond .eq 30, 3) := gd_X4_readSide_42.1
theorem dX4_readSide_45 : decode cX4_readSide 45 = .ok (.aload_n 0, 1) := gd_X4_readSide_42.2.1
theorem dX4_readSide_46 : decode cX4_readSide 46 = .ok (.aload_n 1, 1) := gd_X4_readSide_42.2.2.1
theorem dX4_readSide_47 : decode cX4_readSide 47 = .ok (.getfield 152, 3) := gd_X4_readSide_42.2.2.2.1
theorem dX4_readSide_50 : decode cX4_readSide 50 = .ok (.ifCond .ne 7, 3) := gd_X4_readSide_42.2.2.2.2.1
theorem dX4_readSide_53 : decode cX4_readSide 53 = .ok (.iconst 1, 1) := gd_X4_readSide_42.2.2.2.2.2.1
theorem dX4_readSide_54 : decode cX4_readSide 54 = .ok (.goto 4, 3) := gd_X4_readSide_42.2.2.2.2.2.2.1
theorem dX4_readSide_57 : decode cX4_readSide 57 = .ok (.iconst 0, 1) := gd_X4_readSide_42.2.2.2.2.2.2.2.1
theorem dX4_readSide_58 : decode cX4_readSide 58 = .ok (.invokevirtual 147, 3) := gd_X4_readSide_42.2.2.2.2.2.2.2.2.1
theorem dX4_readSide_61 : decode cX4_readSide 61 = .ok (.ifCond .eq 113, 3) := gd_X4_readSide_42.2.2.2.2.2.2.2.2.2
theorem gd_X4_readSide_64 : decode cX4_readSide 64 = .ok (.aload_n 1, 1) ∧ decode cX4_readSide 65 = .ok (.iconst 1, 1) ∧ decode cX4_readSide 66 = .ok (.putfield 152, 3) ∧ decode cX4_readSide 69 = .ok (.goto 105, 3) ∧ decode cX4_readSide 72 = .ok (.aload_n 0, 1) ∧ decode cX4_readSide 73 = .ok (.ldc 155, 2) ∧ decode cX4_readSide 75 = .ok (.invokevirtual 51, 3) ∧ decode cX4_readSide 78 = .ok (.ifCond .eq 42, 3) ∧ decode cX4_readSide 81 = .ok (.aload_n 0, 1) ∧ decode cX4_readSide 82 = .ok (.aload_n 1, 1) := by decide +kernel
theorem dX4_readSide_64 : decode cX4_readSide 64 = .ok (.aload_n 1, 1) := gd_X4_readSide_64.1
theorem dX4_readSide_65 : decode cX4_readSide 65 = .ok (.iconst 1, 1) := gd_X4_readSide_64.2.1
theorem dX4_readSide_66 : decode cX4_readSide 66 = .ok (.putfield 152, 3) := gd_X4_readSide_64.2.2.1
theorem dX4_readSide_69 : decode cX4_readSide 69 = .ok (.goto 105, 3) := gd_X4_readSide_64.2.2.2.1
theorem dX4_readSide_72 : decode cX4_readSide 72 = .ok (.aload_n 0, 1) := gd_X4_readSide_64.2.2.2.2.1
theorem dX4_readSide_73 : decode cX4_readSide 73 = .ok (.ldc 155, 2) := gd_X4_readSide_64.2.2.2.2.2.1
theorem dX4_readSide_75 : decode cX4_readSide 75 = .ok (.invokevirtual 51, 3) := gd_X4_readSide_64.2.2.2.2.2.2.1
theorem dX4_readSide_78 : decode cX4_readSide 78 = .ok (.ifCond .eq 42, 3) := gd_X4_readSide_64.2.2.2.2.2.2.2.1
theorem dX4_readSide_81 : decode cX4_readSide 81 = .ok (.aload_n 0, 1) := gd_X4_readSide_64.2.2.2.2.2.2.2.2.1
theorem dX4_readSide_82 : decode cX4_readSide 82 = .ok (.aload_n 1, 1) := gd_X4_readSide_64.2.2.2.2.2.2.2.2.2
theorem gd_X4_readSide_83 : decode cX4_readSide 83 = .ok (.getfield 157, 3) ∧ decode cX4_readSide 86 = .ok (.arraylength, 1) ∧ decode cX4_readSide 87 = .ok (.ifCond .ne 7, 3) ∧ decode cX4_readSide 90 = .ok (.iconst 1, 1) ∧ decode cX4_readSide 91 = .ok (.goto 4, 3) ∧ decode cX4_readSide 94 = .ok (.iconst 0, 1) ∧ decode cX4_readSide 95 = .ok (.invokevirtual 147, 3) ∧ decode cX4_readSide 98 = .ok (.ifCond .eq 76, 3) ∧ decode cX4_readSide 101 = .ok (.aload_n 0, 1) ∧ decode cX4_readSide 102 = .ok (.iconst 0, 1) := by decide +kernel
theorem dX4_readSide_83 : decode cX4_readSide 83 = .ok (.getfield 157, 3) := gd_X4_readSide_83.1
theorem dX4_readSide_86 : decode cX4_readSide 86 = .ok (.arraylength, 1) := gd_X4_readSide_83.2.1
theorem dX4_readSide_87 : decode cX4_readSide 87 = .ok (.ifCond .ne 7, 3) := gd_X4_readSide_83.2.2.1
theorem dX4_readSide_90 : decode cX4_readSide 90 = .ok (.iconst 1, 1) := gd_X4_readSide_83.2.2.2.1
theorem dX4_readSide_91 : decode cX4_readSide 91 = .ok (.goto 4, 3) := gd_X4_readSide_83.2.2.2.2.1
theorem dX4_readSide_94 : decode cX4_readSide 94 = .ok (.iconst 0, 1) := gd_X4_readSide_83.2.2.2.2.2.1
theorem dX4_readSide_95 : decode cX4_readSide 95 = .ok (.invokevirtual 147, 3) := gd_X4_readSide_83.2.2.2.2.2.2.1
theorem dX4_readSide_98 : decode cX4_readSide 98 = .ok (.ifCond .eq 76, 3) := gd_X4_readSide_83.2.2.2.2.2.2.2.1
theorem dX4_readSide_101 : decode cX4_readSide 101 = .ok (.aload_n 0, 1) := gd_X4_readSide_83.2.2.2.2.2.2.2.2.1
theorem dX4_readSide_102 : decode cX4_readSide 102 = .ok (.iconst 0, 1) := gd_X4_readSide_83.2.2.2.2.2.2.2.2.2
theorem gd_X4_readSide_103 : decode cX4_readSide 103 = .ok (.invokevirtual 111, 3) ∧ decode cX4_readSide 106 = .ok (.ifCond .eq 68, 3) ∧ decode cX4_readSide 109 = .ok (.aload_n 1, 1) ∧ decode cX4_readSide 110 = .ok (.aload_n 0, 1) ∧ decode cX4_readSide 111 = .ok (.invokevirtual 126, 3) ∧ decode cX4_readSide 114 = .ok (.putfield 157, 3) ∧ decode cX4_readSide 117 = .ok (.goto 57, 3) ∧ decode cX4_readSide 120 = .ok (.aload_n 0, 1) ∧ decode cX4_readSide 121 = .ok (.ldc 160, 2) ∧ decode cX4_readSide 123 = .ok (.invokevirtual 51, 3) := by decide +kernel
theorem dX4_readSide_103 : decode cX4_readSide 103 = .ok (.invokevirtual 111, 3) := gd_X4_readSide_103.1
theorem dX4_readSide_106 : decode cX4_readSide 106 = .ok (.ifCond .eq 68, 3) := gd_X4_readSide_103.2.1
theorem dX4_readSide_109 : decode cX4_readSide 109 = .ok (.aload_n 1, 1) := gd_X4_readSide_103.2.2.1
theorem dX4_readSide_110 : decode cX4_readSide 110 = .ok (.aload_n 0, 1) := gd_X4_readSide_103.2.2.2.1
theorem dX4_readSide_111 : decode cX4_readSide 111 = .ok (.invokevirtual 126, 3) := gd_X4_readSide_103.2.2.2.2.1
theorem dX4_readSide_114 : decode cX4_readSide 114 = .ok (.putfield 157, 3) := gd_X4_readSide_103.2.2.2.2.2.1
theorem dX4_readSide_117 : decode cX4_readSide 117 = .ok (.goto 57, 3) := gd_X4_readSide_103.2.2.2.2.2.2.1
theorem dX4_readSide_120 : decode cX4_readSide 120 = .ok (.aload_n 0, 1) := gd_X4_readSide_103.2.2.2.2.2.2.2.1
theorem dX4_readSide_121 : decode cX4_readSide 121 = .ok (.ldc 160, 2) := gd_X4_readSide_103.2.2.2.2.2.2.2.2.1
theorem dX4_readSide_123 : decode cX4_readSide 123 = .ok (.invokevirtual 51, 3) := gd_X4_readSide_103.2.2.2.2.2.2.2.2.2
theorem gd_X4_readSide_126 : decode cX4_readSide 126 = .ok (.ifCond .eq 42, 3) ∧ decode cX4_readSide 129 = .ok (.aload_n 0, 1) ∧ decode cX4_readSide 130 = .ok (.aload_n 1, 1) ∧ decode cX4_readSide 131 = .ok (.getfield 162, 3) ∧ decode cX4_readSide 134 = .ok (.arraylength, 1) ∧ decode cX4_readSide 135 = .ok (.ifCond .ne 7, 3) ∧ decode cX4_readSide 138 = .ok (.iconst 1, 1) ∧ decode cX4_readSide 139 = .ok (.goto 4, 3) ∧ decode cX4_readSide 142 = .ok (.iconst 0, 1) ∧ decode cX4_readSide 143 = .ok (.invokevirtual 147, 3) := by decide +kernel
theorem dX4_readSide_126 : decode cX4_readSide 126 = .ok (.ifCond .eq 42, 3) := gd_X4_readSide_126.1
theorem dX4_readSide_129 : decode cX4_readSide 129 = .ok (.aload_n 0, 1) := gd_X4_readSide_126.2.1
theorem dX4_readSide_130 : decode cX4_readSide 130 = .ok (.aload_n 1, 1) := gd_X4_readSide_126.2.2.1
theorem dX4_readSide_131 : decode cX4_readSide 131 = .ok (.getfield 162, 3) := gd_X4_readSide_126.2.2.2.1
theorem dX4_readSide_134 : decode cX4_readSide 134 = .ok (.arraylength, 1) := gd_X4_readSide_126.2.2.2.2.1
theorem dX4_readSide_135 : decode cX4_readSide 135 = .ok (.ifCond .ne 7, 3) := gd_X4_readSide_126.2.2.2.2.2.1
theorem dX4_readSide_138 : decode cX4_readSide 138 = .ok (.iconst 1, 1) := gd_X4_readSide_126.2.2.2.2.2.2.1
theorem dX4_readSide_139 : decode cX4_readSide 139 = .ok (.goto 4, 3) := gd_X4_readSide_126.2.2.2.2.2.2.2.1
theorem dX4_readSide_142 : decode cX4_readSide 142 = .ok (.iconst 0, 1) := gd_X4_readSide_126.2.2.2.2.2.2.2.2.1
theorem dX4_readSide_143 : decode cX4_readSide 143 = .ok (.invokevirtual 147, 3) := gd_X4_readSide_126.2.2.2.2.2.2.2.2.2
theorem gd_X4_readSide_146 : decode cX4_readSide 146 = .ok (.ifCond .eq 28, 3) ∧ decode cX4_readSide 149 = .ok (.aload_n 0, 1) ∧ decode cX4_readSide 150 = .ok (.iconst 0, 1) ∧ decode cX4_readSide 151 = .ok (.invokevirtual 111, 3) ∧ decode cX4_readSide 154 = .ok (.ifCond .eq 20, 3) ∧ decode cX4_readSide 157 = .ok (.aload_n 1, 1) ∧ decode cX4_readSide 158 = .ok (.aload_n 0, 1) ∧ decode cX4_readSide 159 = .ok (.invokevirtual 126, 3) ∧ decode cX4_readSide 162 = .ok (.putfield 162, 3) ∧ decode cX4_readSide 165 = .ok (.goto 9, 3) := by decide +kernel
theorem dX4_readSide_146 : decode cX4_readSide 146 = .ok (.ifCond .eq 28, 3) := gd_X4_readSide_146.1
theorem dX4_readSide_149 : decode cX4_readSide 149 = .ok (.aload_n 0, 1) := gd_X4_readSide_146.2.1
theorem dX4_readSide_150 : decode cX4_readSide 150 = .ok (.iconst 0, 1) := gd_X4_readSide_146.2.2.1
theorem dX4_readSide_151 : decode cX4_readSide 151 = .ok (.invokevirtual 111, 3) := gd_X4_readSide_146.2.2.2.1
theorem dX4_readSide_154 : decode cX4_readSide 154 = .ok (.ifCond .eq 20, 3) := gd_X4_readSide_146.2.2.2.2.1
theorem dX4_readSide_157 : decode cX4_readSide 157 = .ok (.aload_n 1, 1) := gd_X4_readSide_146.2.2.2.2.2.1
theorem dX4_readSide_158 : decode cX4_readSide 158 = .ok (.aload_n 0, 1) := gd_X4_readSide_146.2.2.2.2.2.2.1
theorem dX4_readSide_159 : decode cX4_readSide 159 = .ok (.invokevirtual 126, 3) := gd_X4_readSide_146.2.2.2.2.2.2.2.1
theorem dX4_readSide_162 : decode cX4_readSide 162 = .ok (.putfield 162, 3) := gd_X4_readSide_146.2.2.2.2.2.2.2.2.1
theorem dX4_readSide_165 : decode cX4_readSide 165 = .ok (.goto 9, 3) := gd_X4_readSide_146.2.2.2.2.2.2.2.2.2
theorem gd_X4_readSide_168 : decode cX4_readSide 168 = .ok (.aload_n 0, 1) ∧ decode cX4_readSide 169 = .ok (.iconst 1, 1) ∧ decode cX4_readSide 170 = .ok (.invokevirtual 74, 3) ∧ decode cX4_readSide 173 = .ok (.pop, 1) ∧ decode cX4_readSide 174 = .ok (.return_, 1) ∧ decode cX4_letters 0 = .ok (.aload_n 0, 1) ∧ decode cX4_letters 1 = .ok (.getfield 18, 3) ∧ decode cX4_letters 4 = .ok (.aload_n 0, 1) ∧ decode cX4_letters 5 = .ok (.getfield 34, 3) ∧ decode cX4_letters 8 = .ok (.aload_n 0, 1) := by decide +kernel
theorem dX4_readSide_168 : decode cX4_readSide 168 = .ok (.aload_n 0, 1) := gd_X4_readSide_168.1
theorem dX4_readSide_169 : decode cX4_readSide 169 = .ok (.iconst 1, 1) := gd_X4_readSide_168.2.1
theorem dX4_readSide_170 : decode cX4_readSide 170 = .ok (.invokevirtual 74, 3) := gd_X4_readSide_168.2.2.1
theorem dX4_readSide_173 : decode cX4_readSide 173 = .ok (.pop, 1) := gd_X4_readSide_168.2.2.2.1
theorem dX4_readSide_174 : decode cX4_readSide 174 = .ok (.return_, 1) := gd_X4_readSide_168.2.2.2.2.1
theorem dX4_letters_0 : decode cX4_letters 0 = .ok (.aload_n 0, 1) := gd_X4_readSide_168.2.2.2.2.2.1
theorem dX4_letters_1 : decode cX4_letters 1 = .ok (.getfield 18, 3) := gd_X4_readSide_168.2.2.2.2.2.2.1
theorem dX4_letters_4 : decode cX4_letters 4 = .ok (.aload_n 0, 1) := gd_X4_readSide_168.2.2.2.2.2.2.2.1
theorem dX4_letters_5 : decode cX4_letters 5 = .ok (.getfield 34, 3) := gd_X4_readSide_168.2.2.2.2.2.2.2.2.1
theorem dX4_letters_8 : decode cX4_letters 8 = .ok (.aload_n 0, 1) := gd_X4_readSide_168.2.2.2.2.2.2.2.2.2
theorem gd_X4_letters_9 : decode cX4_letters 9 = .ok (.getfield 34, 3) ∧ decode cX4_letters 12 = .ok (.aload_n 0, 1) ∧ decode cX4_letters 13 = .ok (.getfield 37, 3) ∧ decode cX4_letters 16 = .ok (.iadd, 1) ∧ decode cX4_letters 17 = .ok (.invokestatic 171, 3) ∧ decode cX4_letters 20 = .ok (.areturn, 1) ∧ decode cX11_reform 62 = .ok (.iconst (-1), 1) ∧ decode cX11_reform 63 = .ok (.ireturn, 1) ∧ decode cX11_reform 73 = .ok (.bipush (-3), 2) ∧ decode cX11_reform 75 = .ok (.ireturn, 1) := by decide +kernel
theorem dX4_letters_9 : decode cX4_letters 9 = .ok (.getfield 34, 3) := gd_X4_letters_9.1
theorem dX4_letters_12 : decode cX4_letters 12 = .ok (.aload_n 0, 1) := gd_X4_letters_9.2.1
theorem dX4_letters_13 : decode cX4_letters 13 = .ok (.getfield 37, 3) := gd_X4_letters_9.2.2.1
theorem dX4_letters_16 : decode cX4_letters 16 = .ok (.iadd, 1) := gd_X4_letters_9.2.2.2.1
theorem dX4_letters_17 : decode cX4_letters 17 = .ok (.invokestatic 171, 3) := gd_X4_letters_9.2.2.2.2.1
theorem dX4_letters_20 : decode cX4_letters 20 = .ok (.areturn, 1) := gd_X4_letters_9.2.2.2.2.2.1
theorem dX11_reform_62 : decode cX11_reform 62 = .ok (.iconst (-1), 1) := gd_X4_letters_9.2.2.2.2.2.2.1
theorem dX11_reform_63 : decode cX11_reform 63 = .ok (.ireturn, 1) := gd_X4_letters_9.2.2.2.2.2.2.2.1
theorem dX11_reform_73 : decode cX11_reform 73 = .ok (.bipush (-3), 2) := gd_X4_letters_9.2.2.2.2.2.2.2.2.1
theorem dX11_reform_75 : decode cX11_reform 75 = .ok (.ireturn, 1) := gd_X4_letters_9.2.2.2.2.2.2.2.2.2
theorem gd_X11_back_30 : decode cX11_back 30 = .ok (.aload_n 0, 1) ∧ decode cX11_back 31 = .ok (.getfield 67, 3) ∧ decode cX11_back 34 = .ok (.iload_n 1, 1) ∧ decode cX11_back 35 = .ok (.aload_n 0, 1) ∧ decode cX11_back 36 = .ok (.getfield 18, 3) ∧ decode cX11_back 39 = .ok (.aload_n 0, 1) ∧ decode cX11_back 40 = .ok (.getfield 44, 3) ∧ decode cX11_back 43 = .ok (.invokevirtual 211, 3) ∧ decode cX11_back 46 = .ok (.aload_n 0, 1) ∧ decode cX11_back 47 = .ok (.iconst 0, 1) := by decide +kernel
theorem dX11_back_30 : decode cX11_back 30 = .ok (.aload_n 0, 1) := gd_X11_back_30.1
theorem dX11_back_31 : decode cX11_back 31 = .ok (.getfield 67, 3) := gd_X11_back_30.2.1
theorem dX11_back_34 : decode cX11_back 34 = .ok (.iload_n 1, 1) := gd_X11_back_30.2.2.1
theorem dX11_back_35 : decode cX11_back 35 = .ok (.aload_n 0, 1) := gd_X11_back_30.2.2.2.1
theorem dX11_back_36 : decode cX11_back 36 = .ok (.getfield 18, 3) := gd_X11_back_30.2.2.2.2.1
theorem dX11_back_39 : decode cX11_back 39 = .ok (.aload_n 0, 1) := gd_X11_back_30.2.2.2.2.2.1
theorem dX11_back_40 : decode cX11_back 40 = .ok (.getfield 44, 3) := gd_X11_back_30.2.2.2.2.2.2.1
theorem dX11_back_43 : decode cX11_back 43 = .ok (.invokevirtual 211, 3) := gd_X11_back_30.2.2.2.2.2.2.2.1
theorem dX11_back_46 : decode cX11_back 46 = .ok (.aload_n 0, 1) := gd_X11_back_30.2.2.2.2.2.2.2.2.1
theorem dX11_back_47 : decode cX11_back 47 = .ok (.iconst 0, 1) := gd_X11_back_30.2.2.2.2.2.2.2.2.2
theorem gd_X11_back_48 : decode cX11_back 48 = .ok (.putfield 75, 3) ∧ decode cX11_back 51 = .ok (.iconst 0, 1) ∧ decode cX11_back 52 = .ok (.istore_n 3, 1) ∧ decode cX11_back 53 = .ok (.iload_n 3, 1) ∧ decode cX11_back 54 = .ok (.aload_n 0, 1) ∧ decode cX11_back 55 = .ok (.getfield 67, 3) ∧ decode cX11_back 58 = .ok (.getfield 197, 3) ∧ decode cX11_back 61 = .ok (.getfield 151, 3) ∧ decode cX11_back 64 = .ok (.if_icmp .ge 54, 3) ∧ decode cX11_back 67 = .ok (.aload_n 0, 1) := by decide +kernel
theorem dX11_back_48 : decode cX11_back 48 = .ok (.putfield 75, 3) := gd_X11_back_48.1
theorem dX11_back_51 : decode cX11_back 51 = .ok (.iconst 0, 1) := gd_X11_back_48.2.1
theorem dX11_back_52 : decode cX11_back 52 = .ok (.istore_n 3, 1) := gd_X11_back_48.2.2.1
theorem dX11_back_53 : decode cX11_back 53 = .ok (.iload_n 3, 1) := gd_X11_back_48.2.2.2.1
theorem dX11_back_54 : decode cX11_back 54 = .ok (.aload_n 0, 1) := gd_X11_back_48.2.2.2.2.1
theorem dX11_back_55 : decode cX11_back 55 = .ok (.getfield 67, 3) := gd_X11_back_48.2.2.2.2.2.1
theorem dX11_back_58 : decode cX11_back 58 = .ok (.getfield 197, 3) := gd_X11_back_48.2.2.2.2.2.2.1
theorem dX11_back_61 : decode cX11_back 61 = .ok (.getfield 151, 3) := gd_X11_back_48.2.2.2.2.2.2.2.1
theorem dX11_back_64 : decode cX11_back 64 = .ok (.if_icmp .ge 54, 3) := gd_X11_back_48.2.2.2.2.2.2.2.2.1
theorem dX11_back_67 : decode cX11_back 67 = .ok (.aload_n 0, 1) := gd_X11_back_48.2.2.2.2.2.2.2.2.2
theorem gd_X11_back_68 : decode cX11_back 68 = .ok (.getfield 67, 3) ∧ decode cX11_back 71 = .ok (.iload_n 1, 1) ∧ decode cX11_back 72 = .ok (.iload_n 3, 1) ∧ decode cX11_back 73 = .ok (.invokevirtual 215, 3) ∧ decode cX11_back 76 = .ok (.aload_n 0, 1) ∧ decode cX11_back 77 = .ok (.getfield 12, 3) ∧ decode cX11_back 80 = .ok (.getfield 120, 3) ∧ decode cX11_back 83 = .ok (.iconst 0, 1) ∧ decode cX11_back 84 = .ok (.iload_n 2, 1) ∧ decode cX11_back 85 = .ok (.invokevirtual 180, 3) := by decide +kernel
theorem dX11_back_68 : decode cX11_back 68 = .ok (.getfield 67, 3) := gd_X11_back_68.1
theorem dX11_back_71 : decode cX11_back 71 = .ok (.iload_n 1, 1) := gd_X11_back_68.2.1
theorem dX11_back_72 : decode cX11_back 72 = .ok (.iload_n 3, 1) := gd_X11_back_68.2.2.1
theorem dX11_back_73 : decode cX11_back 73 = .ok (.invokevirtual 215, 3) := gd_X11_back_68.2.2.2.1
theorem dX11_back_76 : decode cX11_back 76 = .ok (.aload_n 0, 1) := gd_X11_back_68.2.2.2.2.1
theorem dX11_back_77 : decode cX11_back 77 = .ok (.getfield 12, 3) := gd_X11_back_68.2.2.2.2.2.1
theorem dX11_back_80 : decode cX11_back 80 = .ok (.getfield 120, 3) := gd_X11_back_68.2.2.2.2.2.2.1
theorem dX11_back_83 : decode cX11_back 83 = .ok (.iconst 0, 1) := gd_X11_back_68.2.2.2.2.2.2.2.1
theorem dX11_back_84 : decode cX11_back 84 = .ok (.iload_n 2, 1) := gd_X11_back_68.2.2.2.2.2.2.2.2.1
theorem dX11_back_85 : decode cX11_back 85 = .ok (.invokevirtual 180, 3) := gd_X11_back_68.2.2.2.2.2.2.2.2.2
theorem gd_X11_back_88 : decode cX11_back 88 = .ok (.iconst (-1), 1) ∧ decode cX11_back 89 = .ok (.if_icmp .eq 23, 3) ∧ decode cX11_back 92 = .ok (.aload_n 0, 1) ∧ decode cX11_back 93 = .ok (.getfield 71, 3) ∧ decode cX11_back 96 = .ok (.aload_n 0, 1) ∧ decode cX11_back 97 = .ok (.getfield 75, 3) ∧ decode cX11_back 100 = .ok (.iload_n 3, 1) ∧ decode cX11_back 101 = .ok (.iastore, 1) ∧ decode cX11_back 102 = .ok (.aload_n 0, 1) ∧ decode cX11_back 103 = .ok (.dup, 1) := by decide +kernel
theorem dX11_back_88 : decode cX11_back 88 = .ok (.iconst (-1), 1) := gd_X11_back_88.1
theorem dX11_back_89 : decode cX11_back 89 = .ok (.if_icmp .eq 23, 3) := gd_X11_back_88.2.1
theorem dX11_back_92 : decode cX11_back 92 = .ok (.aload_n 0, 1) := gd_X11_back_88.2.2.1
theorem dX11_back_93 : decode cX11_back 93 = .ok (.getfield 71, 3) := gd_X11_back_88.2.2.2.1
theorem dX11_back_96 : decode cX11_back 96 = .ok (.aload_n 0, 1) := gd_X11_back_88.2.2.2.2.1
theorem dX11_back_97 : decode cX11_back 97 = .ok (.getfield 75, 3) := gd_X11_back_88.2.2.2.2.2.1
theorem dX11_back_100 : decode cX11_back 100 = .ok (.iload_n 3, 1) := gd_X11_back_88.2.2.2.2.2.2.1
theorem dX11_back_101 : decode cX11_back 101 = .ok (.iastore, 1) := gd_X11_back_88.2.2.2.2.2.2.2.1
theorem dX11_back_102 : decode cX11_back 102 = .ok (.aload_n 0, 1) := gd_X11_back_88.2.2.2.2.2.2.2.2.1
theorem dX11_back_103 : decode cX11_back 103 = .ok (.dup, 1) := gd_X11_back_88.2.2.2.2.2.2.2.2.2
theorem gd_X11_back_104 : decode cX11_back 104 = .ok (.getfield 75, 3) ∧ decode cX11_back 107 = .ok (.iconst 1, 1) ∧ decode cX11_back 108 = .ok (.iadd, 1) ∧ decode cX11_back 109 = .ok (.putfield 75, 3) ∧ decode cX11_back 112 = .ok (.iinc 3 1, 3) ∧ decode cX11_back 115 = .ok (.goto (-62), 3) ∧ decode cX11_back 118 = .ok (.aload_n 0, 1) ∧ decode cX11_back 119 = .ok (.getfield 75, 3) ∧ decode cX11_back 122 = .ok (.ireturn, 1) ∧ decode cX11_collisions 50 = .ok (.iload_n 3, 1) := by decide +kernel
theorem dX11_back_104 : decode cX11_back 104 = .ok (.getfield 75, 3) := gd_X11_back_104.1
theorem dX11_back_107 : decode cX11_back 107 = .ok (.iconst 1, 1) := gd_X11_back_104.2.1
theorem dX11_back_108 : decode cX11_back 108 = .ok (.iadd, 1) := gd_X11_back_104.2.2.1
theorem dX11_back_109 : decode cX11_back 109 = .ok (.putfield 75, 3) := gd_X11_back_104.2.2.2.1
theorem dX11_back_112 : decode cX11_back 112 = .ok (.iinc 3 1, 3) := gd_X11_back_104.2.2.2.2.1
theorem dX11_back_115 : decode cX11_back 115 = .ok (.goto (-62), 3) := gd_X11_back_104.2.2.2.2.2.1
theorem dX11_back_118 : decode cX11_back 118 = .ok (.aload_n 0, 1) := gd_X11_back_104.2.2.2.2.2.2.1
theorem dX11_back_119 : decode cX11_back 119 = .ok (.getfield 75, 3) := gd_X11_back_104.2.2.2.2.2.2.2.1
theorem dX11_back_122 : decode cX11_back 122 = .ok (.ireturn, 1) := gd_X11_back_104.2.2.2.2.2.2.2.2.1
theorem dX11_collisions_50 : decode cX11_collisions 50 = .ok (.iload_n 3, 1) := gd_X11_back_104.2.2.2.2.2.2.2.2.2
theorem gd_X11_collisions_51 : decode cX11_collisions 51 = .ok (.iconst 1, 1) ∧ decode cX11_collisions 52 = .ok (.iadd, 1) ∧ decode cX11_collisions 53 = .ok (.istore 4, 2) ∧ decode cX11_collisions 55 = .ok (.iload 4, 2) ∧ decode cX11_collisions 57 = .ok (.aload_n 0, 1) ∧ decode cX11_collisions 58 = .ok (.getfield 67, 3) ∧ decode cX11_collisions 61 = .ok (.getfield 197, 3) ∧ decode cX11_collisions 64 = .ok (.getfield 151, 3) ∧ decode cX11_collisions 67 = .ok (.if_icmp .ge 38, 3) ∧ decode cX11_collisions 70 = .ok (.aload_n 0, 1) := by decide +kernel
theorem dX11_collisions_51 : decode cX11_collisions 51 = .ok (.iconst 1, 1) := gd_X11_collisions_51.1
theorem dX11_collisions_52 : decode cX11_collisions 52 = .ok (.iadd, 1) := gd_X11_collisions_51.2.1
theorem dX11_collisions_53 : decode cX11_collisions 53 = .ok (.istore 4, 2) := gd_X11_collisions_51.2.2.1
theorem dX11_collisions_55 : decode cX11_collisions 55 = .ok (.iload 4, 2) := gd_X11_collisions_51.2.2.2.1
theorem dX11_collisions_57 : decode cX11_collisions 57 = .ok (.aload_n 0, 1) := gd_X11_collisions_51.2.2.2.2.1
theorem dX11_collisions_58 : decode cX11_collisions 58 = .ok (.getfield 67, 3) := gd_X11_collisions_51.2.2.2.2.2.1
theorem dX11_collisions_61 : decode cX11_collisions 61 = .ok (.getfield 197, 3) := gd_X11_collisions_51.2.2.2.2.2.2.1
theorem dX11_collisions_64 : decode cX11_collisions 64 = .ok (.getfield 151, 3) := gd_X11_collisions_51.2.2.2.2.2.2.2.1
theorem dX11_collisions_67 : decode cX11_collisions 67 = .ok (.if_icmp .ge 38, 3) := gd_X11_collisions_51.2.2.2.2.2.2.2.2.1
theorem dX11_collisions_70 : decode cX11_collisions 70 = .ok (.aload_n 0, 1) := gd_X11_collisions_51.2.2.2.2.2.2.2.2.2
theorem gd_X11_collisions_71 : decode cX11_collisions 71 = .ok (.getfield 67, 3) ∧ decode cX11_collisions 74 = .ok (.iload_n 1, 1) ∧ decode cX11_collisions 75 = .ok (.iload_n 3, 1) ∧ decode cX11_collisions 76 = .ok (.iload 4, 2) ∧ decode cX11_collisions 78 = .ok (.invokevirtual 219, 3) ∧ decode cX11_collisions 81 = .ok (.ifCond .eq 18, 3) ∧ decode cX11_collisions 84 = .ok (.aload_n 0, 1) ∧ decode cX11_collisions 85 = .ok (.sipush 1000, 3) ∧ decode cX11_collisions 88 = .ok (.iload_n 3, 1) ∧ decode cX11_collisions 89 = .ok (.imul, 1) := by decide +kernel
theorem dX11_collisions_71 : decode cX11_collisions 71 = .ok (.getfield 67, 3) := gd_X11_collisions_71.1
theorem dX11_collisions_74 : decode cX11_collisions 74 = .ok (.iload_n 1, 1) := gd_X11_collisions_71.2.1
theorem dX11_collisions_75 : decode cX11_collisions 75 = .ok (.iload_n 3, 1) := gd_X11_collisions_71.2.2.1
theorem dX11_collisions_76 : decode cX11_collisions 76 = .ok (.iload 4, 2) := gd_X11_collisions_71.2.2.2.1
theorem dX11_collisions_78 : decode cX11_collisions 78 = .ok (.invokevirtual 219, 3) := gd_X11_collisions_71.2.2.2.2.1
theorem dX11_collisions_81 : decode cX11_collisions 81 = .ok (.ifCond .eq 18, 3) := gd_X11_collisions_71.2.2.2.2.2.1
theorem dX11_collisions_84 : decode cX11_collisions 84 = .ok (.aload_n 0, 1) := gd_X11_collisions_71.2.2.2.2.2.2.1
theorem dX11_collisions_85 : decode cX11_collisions 85 = .ok (.sipush 1000, 3) := gd_X11_collisions_71.2.2.2.2.2.2.2.1
theorem dX11_collisions_88 : decode cX11_collisions 88 = .ok (.iload_n 3, 1) := gd_X11_collisions_71.2.2.2.2.2.2.2.2.1
theorem dX11_collisions_89 : decode cX11_collisions 89 = .ok (.imul, 1) := gd_X11_collisions_71.2.2.2.2.2.2.2.2.2
theorem gd_X11_collisions_90 : decode cX11_collisions 90 = .ok (.iload 4, 2) ∧ decode cX11_collisions 92 = .ok (.iadd, 1) ∧ decode cX11_collisions 93 = .ok (.invokevirtual 223, 3) ∧ decode cX11_collisions 96 = .ok (.iinc 2 1, 3) ∧ decode cX11_collisions 99 = .ok (.iinc 4 1, 3) ∧ decode cX11_collisions 102 = .ok (.goto (-47), 3) ∧ decode cX11_collisions 105 = .ok (.iinc 3 1, 3) ∧ decode cX11_collisions 108 = .ok (.goto (-72), 3) ∧ decode cX11_rhymes 45 = .ok (.iload_n 3, 1) ∧ decode cX11_rhymes 46 = .ok (.iconst 1, 1) := by decide +kernel
theorem dX11_collisions_90 : decode cX11_collisions 90 = .ok (.iload 4, 2) := gd_X11_collisions_90.1
theorem dX11_collisions_92 : decode cX11_collisions 92 = .ok (.iadd, 1) := gd_X11_collisions_90.2.1
theorem dX11_collisions_93 : decode cX11_collisions 93 = .ok (.invokevirtual 223, 3) := gd_X11_collisions_90.2.2.1
theorem dX11_collisions_96 : decode cX11_collisions 96 = .ok (.iinc 2 1, 3) := gd_X11_collisions_90.2.2.2.1
theorem dX11_collisions_99 : decode cX11_collisions 99 = .ok (.iinc 4 1, 3) := gd_X11_collisions_90.2.2.2.2.1
theorem dX11_collisions_102 : decode cX11_collisions 102 = .ok (.goto (-47), 3) := gd_X11_collisions_90.2.2.2.2.2.1
theorem dX11_collisions_105 : decode cX11_collisions 105 = .ok (.iinc 3 1, 3) := gd_X11_collisions_90.2.2.2.2.2.2.1
theorem dX11_collisions_108 : decode cX11_collisions 108 = .ok (.goto (-72), 3) := gd_X11_collisions_90.2.2.2.2.2.2.2.1
theorem dX11_rhymes_45 : decode cX11_rhymes 45 = .ok (.iload_n 3, 1) := gd_X11_collisions_90.2.2.2.2.2.2.2.2.1
theorem dX11_rhymes_46 : decode cX11_rhymes 46 = .ok (.iconst 1, 1) := gd_X11_collisions_90.2.2.2.2.2.2.2.2.2
theorem gd_X11_rhymes_47 : decode cX11_rhymes 47 = .ok (.iadd, 1) ∧ decode cX11_rhymes 48 = .ok (.istore 4, 2) ∧ decode cX11_rhymes 50 = .ok (.iload 4, 2) ∧ decode cX11_rhymes 52 = .ok (.aload_n 0, 1) ∧ decode cX11_rhymes 53 = .ok (.getfield 67, 3) ∧ decode cX11_rhymes 56 = .ok (.getfield 197, 3) ∧ decode cX11_rhymes 59 = .ok (.getfield 151, 3) ∧ decode cX11_rhymes 62 = .ok (.if_icmp .ge 49, 3) ∧ decode cX11_rhymes 65 = .ok (.aload_n 0, 1) ∧ decode cX11_rhymes 66 = .ok (.getfield 67, 3) := by decide +kernel
theorem dX11_rhymes_47 : decode cX11_rhymes 47 = .ok (.iadd, 1) := gd_X11_rhymes_47.1
theorem dX11_rhymes_48 : decode cX11_rhymes 48 = .ok (.istore 4, 2) := gd_X11_rhymes_47.2.1
theorem dX11_rhymes_50 : decode cX11_rhymes 50 = .ok (.iload 4, 2) := gd_X11_rhymes_47.2.2.1
theorem dX11_rhymes_52 : decode cX11_rhymes 52 = .ok (.aload_n 0, 1) := gd_X11_rhymes_47.2.2.2.1
theorem dX11_rhymes_53 : decode cX11_rhymes 53 = .ok (.getfield 67, 3) := gd_X11_rhymes_47.2.2.2.2.1
theorem dX11_rhymes_56 : decode cX11_rhymes 56 = .ok (.getfield 197, 3) := gd_X11_rhymes_47.2.2.2.2.2.1
theorem dX11_rhymes_59 : decode cX11_rhymes 59 = .ok (.getfield 151, 3) := gd_X11_rhymes_47.2.2.2.2.2.2.1
theorem dX11_rhymes_62 : decode cX11_rhymes 62 = .ok (.if_icmp .ge 49, 3) := gd_X11_rhymes_47.2.2.2.2.2.2.2.1
theorem dX11_rhymes_65 : decode cX11_rhymes 65 = .ok (.aload_n 0, 1) := gd_X11_rhymes_47.2.2.2.2.2.2.2.2.1
theorem dX11_rhymes_66 : decode cX11_rhymes 66 = .ok (.getfield 67, 3) := gd_X11_rhymes_47.2.2.2.2.2.2.2.2.2
theorem gd_X11_rhymes_69 : decode cX11_rhymes 69 = .ok (.getfield 197, 3) ∧ decode cX11_rhymes 72 = .ok (.iload_n 3, 1) ∧ decode cX11_rhymes 73 = .ok (.aload_n 0, 1) ∧ decode cX11_rhymes 74 = .ok (.getfield 67, 3) ∧ decode cX11_rhymes 77 = .ok (.getfield 197, 3) ∧ decode cX11_rhymes 80 = .ok (.iload 4, 2) ∧ decode cX11_rhymes 82 = .ok (.invokevirtual 226, 3) ∧ decode cX11_rhymes 85 = .ok (.ifCond .eq 20, 3) ∧ decode cX11_rhymes 88 = .ok (.aload_n 0, 1) ∧ decode cX11_rhymes 89 = .ok (.getfield 67, 3) := by decide +kernel
theorem dX11_rhymes_69 : decode cX11_rhymes 69 = .ok (.getfield 197, 3) := gd_X11_rhymes_69.1
theorem dX11_rhymes_72 : decode cX11_rhymes 72 = .ok (.iload_n 3, 1) := gd_X11_rhymes_69.2.1
theorem dX11_rhymes_73 : decode cX11_rhymes 73 = .ok (.aload_n 0, 1) := gd_X11_rhymes_69.2.2.1
theorem dX11_rhymes_74 : decode cX11_rhymes 74 = .ok (.getfield 67, 3) := gd_X11_rhymes_69.2.2.2.1
theorem dX11_rhymes_77 : decode cX11_rhymes 77 = .ok (.getfield 197, 3) := gd_X11_rhymes_69.2.2.2.2.1
theorem dX11_rhymes_80 : decode cX11_rhymes 80 = .ok (.iload 4, 2) := gd_X11_rhymes_69.2.2.2.2.2.1
theorem dX11_rhymes_82 : decode cX11_rhymes 82 = .ok (.invokevirtual 226, 3) := gd_X11_rhymes_69.2.2.2.2.2.2.1
theorem dX11_rhymes_85 : decode cX11_rhymes 85 = .ok (.ifCond .eq 20, 3) := gd_X11_rhymes_69.2.2.2.2.2.2.2.1
theorem dX11_rhymes_88 : decode cX11_rhymes 88 = .ok (.aload_n 0, 1) := gd_X11_rhymes_69.2.2.2.2.2.2.2.2.1
theorem dX11_rhymes_89 : decode cX11_rhymes 89 = .ok (.getfield 67, 3) := gd_X11_rhymes_69.2.2.2.2.2.2.2.2.2
theorem gd_X11_rhymes_92 : decode cX11_rhymes 92 = .ok (.iload_n 1, 1) ∧ decode cX11_rhymes 93 = .ok (.iload_n 3, 1) ∧ decode cX11_rhymes 94 = .ok (.iload 4, 2) ∧ decode cX11_rhymes 96 = .ok (.invokevirtual 230, 3) ∧ decode cX11_rhymes 99 = .ok (.ifCond .ne 6, 3) ∧ decode cX11_rhymes 102 = .ok (.iinc 2 1, 3) ∧ decode cX11_rhymes 105 = .ok (.iinc 4 1, 3) ∧ decode cX11_rhymes 108 = .ok (.goto (-58), 3) ∧ decode cX11_rhymes 111 = .ok (.iinc 3 1, 3) ∧ decode cX11_rhymes 114 = .ok (.goto (-83), 3) := by decide +kernel
theorem dX11_rhymes_92 : decode cX11_rhymes 92 = .ok (.iload_n 1, 1) := gd_X11_rhymes_92.1
theorem dX11_rhymes_93 : decode cX11_rhymes 93 = .ok (.iload_n 3, 1) := gd_X11_rhymes_92.2.1
theorem dX11_rhymes_94 : decode cX11_rhymes 94 = .ok (.iload 4, 2) := gd_X11_rhymes_92.2.2.1
theorem dX11_rhymes_96 : decode cX11_rhymes 96 = .ok (.invokevirtual 230, 3) := gd_X11_rhymes_92.2.2.2.1
theorem dX11_rhymes_99 : decode cX11_rhymes 99 = .ok (.ifCond .ne 6, 3) := gd_X11_rhymes_92.2.2.2.2.1
theorem dX11_rhymes_102 : decode cX11_rhymes 102 = .ok (.iinc 2 1, 3) := gd_X11_rhymes_92.2.2.2.2.2.1
theorem dX11_rhymes_105 : decode cX11_rhymes 105 = .ok (.iinc 4 1, 3) := gd_X11_rhymes_92.2.2.2.2.2.2.1
theorem dX11_rhymes_108 : decode cX11_rhymes 108 = .ok (.goto (-58), 3) := gd_X11_rhymes_92.2.2.2.2.2.2.2.1
theorem dX11_rhymes_111 : decode cX11_rhymes 111 = .ok (.iinc 3 1, 3) := gd_X11_rhymes_92.2.2.2.2.2.2.2.2.1
theorem dX11_rhymes_114 : decode cX11_rhymes 114 = .ok (.goto (-83), 3) := gd_X11_rhymes_92.2.2.2.2.2.2.2.2.2
theorem gd_X11_tell_56 : decode cX11_tell 56 = .ok (.aload_n 0, 1) ∧ decode cX11_tell 57 = .ok (.getfield 67, 3) ∧ decode cX11_tell 60 = .ok (.iload_n 1, 1) ∧ decode cX11_tell 61 = .ok (.iload 4, 2) ∧ decode cX11_tell 63 = .ok (.iload_n 2, 1) ∧ decode cX11_tell 64 = .ok (.invokevirtual 233, 3) ∧ decode cX11_tell 67 = .ok (.ifCond .eq 6, 3) ∧ decode cX11_tell 70 = .ok (.iinc 3 1, 3) ∧ decode cX11_tell 73 = .ok (.iinc 4 1, 3) ∧ decode cX11_tell 76 = .ok (.goto (-35), 3) := by decide +kernel
theorem dX11_tell_56 : decode cX11_tell 56 = .ok (.aload_n 0, 1) := gd_X11_tell_56.1
theorem dX11_tell_57 : decode cX11_tell 57 = .ok (.getfield 67, 3) := gd_X11_tell_56.2.1
theorem dX11_tell_60 : decode cX11_tell 60 = .ok (.iload_n 1, 1) := gd_X11_tell_56.2.2.1
theorem dX11_tell_61 : decode cX11_tell 61 = .ok (.iload 4, 2) := gd_X11_tell_56.2.2.2.1
theorem dX11_tell_63 : decode cX11_tell 63 = .ok (.iload_n 2, 1) := gd_X11_tell_56.2.2.2.2.1
theorem dX11_tell_64 : decode cX11_tell 64 = .ok (.invokevirtual 233, 3) := gd_X11_tell_56.2.2.2.2.2.1
theorem dX11_tell_67 : decode cX11_tell 67 = .ok (.ifCond .eq 6, 3) := gd_X11_tell_56.2.2.2.2.2.2.1
theorem dX11_tell_70 : decode cX11_tell 70 = .ok (.iinc 3 1, 3) := gd_X11_tell_56.2.2.2.2.2.2.2.1
theorem dX11_tell_73 : decode cX11_tell 73 = .ok (.iinc 4 1, 3) := gd_X11_tell_56.2.2.2.2.2.2.2.2.1
theorem dX11_tell_76 : decode cX11_tell 76 = .ok (.goto (-35), 3) := gd_X11_tell_56.2.2.2.2.2.2.2.2.2
theorem gd_X11_uses_10 : decode cX11_uses 10 = .ok (.iload_n 2, 1) ∧ decode cX11_uses 11 = .ok (.ifCond .lt 11, 3) ∧ decode cX11_uses 14 = .ok (.iload_n 2, 1) ∧ decode cX11_uses 15 = .ok (.aload_n 3, 1) ∧ decode cX11_uses 16 = .ok (.getfield 145, 3) ∧ decode cX11_uses 19 = .ok (.if_icmp .lt 6, 3) ∧ decode cX11_uses 25 = .ok (.aload_n 0, 1) ∧ decode cX11_uses 26 = .ok (.getfield 67, 3) ∧ decode cX11_uses 29 = .ok (.iload_n 1, 1) ∧ decode cX11_uses 30 = .ok (.iconst 1, 1) := by decide +kernel
theorem dX11_uses_10 : decode cX11_uses 10 = .ok (.iload_n 2, 1) := gd_X11_uses_10.1
theorem dX11_uses_11 : decode cX11_uses 11 = .ok (.ifCond .lt 11, 3) := gd_X11_uses_10.2.1
theorem dX11_uses_14 : decode cX11_uses 14 = .ok (.iload_n 2, 1) := gd_X11_uses_10.2.2.1
theorem dX11_uses_15 : decode cX11_uses 15 = .ok (.aload_n 3, 1) := gd_X11_uses_10.2.2.2.1
theorem dX11_uses_16 : decode cX11_uses 16 = .ok (.getfield 145, 3) := gd_X11_uses_10.2.2.2.2.1
theorem dX11_uses_19 : decode cX11_uses 19 = .ok (.if_icmp .lt 6, 3) := gd_X11_uses_10.2.2.2.2.2.1
theorem dX11_uses_25 : decode cX11_uses 25 = .ok (.aload_n 0, 1) := gd_X11_uses_10.2.2.2.2.2.2.1
theorem dX11_uses_26 : decode cX11_uses 26 = .ok (.getfield 67, 3) := gd_X11_uses_10.2.2.2.2.2.2.2.1
theorem dX11_uses_29 : decode cX11_uses 29 = .ok (.iload_n 1, 1) := gd_X11_uses_10.2.2.2.2.2.2.2.2.1
theorem dX11_uses_30 : decode cX11_uses 30 = .ok (.iconst 1, 1) := gd_X11_uses_10.2.2.2.2.2.2.2.2.2
theorem gd_X11_uses_31 : decode cX11_uses 31 = .ok (.iadd, 1) ∧ decode cX11_uses 32 = .ok (.aload_n 0, 1) ∧ decode cX11_uses 33 = .ok (.getfield 18, 3) ∧ decode cX11_uses 36 = .ok (.aload_n 0, 1) ∧ decode cX11_uses 37 = .ok (.getfield 44, 3) ∧ decode cX11_uses 40 = .ok (.invokevirtual 211, 3) ∧ decode cX11_uses 43 = .ok (.iconst 0, 1) ∧ decode cX11_uses 44 = .ok (.istore 4, 2) ∧ decode cX11_uses 46 = .ok (.iconst 0, 1) ∧ decode cX11_uses 47 = .ok (.istore 5, 2) := by decide +kernel
theorem dX11_uses_31 : decode cX11_uses 31 = .ok (.iadd, 1) := gd_X11_uses_31.1
theorem dX11_uses_32 : decode cX11_uses 32 = .ok (.aload_n 0, 1) := gd_X11_uses_31.2.1
theorem dX11_uses_33 : decode cX11_uses 33 = .ok (.getfield 18, 3) := gd_X11_uses_31.2.2.1
theorem dX11_uses_36 : decode cX11_uses 36 = .ok (.aload_n 0, 1) := gd_X11_uses_31.2.2.2.1
theorem dX11_uses_37 : decode cX11_uses 37 = .ok (.getfield 44, 3) := gd_X11_uses_31.2.2.2.2.1
theorem dX11_uses_40 : decode cX11_uses 40 = .ok (.invokevirtual 211, 3) := gd_X11_uses_31.2.2.2.2.2.1
theorem dX11_uses_43 : decode cX11_uses 43 = .ok (.iconst 0, 1) := gd_X11_uses_31.2.2.2.2.2.2.1
theorem dX11_uses_44 : decode cX11_uses 44 = .ok (.istore 4, 2) := gd_X11_uses_31.2.2.2.2.2.2.2.1
theorem dX11_uses_46 : decode cX11_uses 46 = .ok (.iconst 0, 1) := gd_X11_uses_31.2.2.2.2.2.2.2.2.1
theorem dX11_uses_47 : decode cX11_uses 47 = .ok (.istore 5, 2) := gd_X11_uses_31.2.2.2.2.2.2.2.2.2
theorem gd_X11_uses_49 : decode cX11_uses 49 = .ok (.iload 5, 2) ∧ decode cX11_uses 51 = .ok (.aload_n 0, 1) ∧ decode cX11_uses 52 = .ok (.getfield 67, 3) ∧ decode cX11_uses 55 = .ok (.getfield 197, 3) ∧ decode cX11_uses 58 = .ok (.getfield 151, 3) ∧ decode cX11_uses 61 = .ok (.if_icmp .ge 26, 3) ∧ decode cX11_uses 64 = .ok (.aload_n 0, 1) ∧ decode cX11_uses 65 = .ok (.getfield 67, 3) ∧ decode cX11_uses 68 = .ok (.iload_n 1, 1) ∧ decode cX11_uses 69 = .ok (.iload 5, 2) := by decide +kernel
theorem dX11_uses_49 : decode cX11_uses 49 = .ok (.iload 5, 2) := gd_X11_uses_49.1
theorem dX11_uses_51 : decode cX11_uses 51 = .ok (.aload_n 0, 1) := gd_X11_uses_49.2.1
theorem dX11_uses_52 : decode cX11_uses 52 = .ok (.getfield 67, 3) := gd_X11_uses_49.2.2.1
theorem dX11_uses_55 : decode cX11_uses 55 = .ok (.getfield 197, 3) := gd_X11_uses_49.2.2.2.1
theorem dX11_uses_58 : decode cX11_uses 58 = .ok (.getfield 151, 3) := gd_X11_uses_49.2.2.2.2.1
theorem dX11_uses_61 : decode cX11_uses 61 = .ok (.if_icmp .ge 26, 3) := gd_X11_uses_49.2.2.2.2.2.1
theorem dX11_uses_64 : decode cX11_uses 64 = .ok (.aload_n 0, 1) := gd_X11_uses_49.2.2.2.2.2.2.1
theorem dX11_uses_65 : decode cX11_uses 65 = .ok (.getfield 67, 3) := gd_X11_uses_49.2.2.2.2.2.2.2.1
theorem dX11_uses_68 : decode cX11_uses 68 = .ok (.iload_n 1, 1) := gd_X11_uses_49.2.2.2.2.2.2.2.2.1
theorem dX11_uses_69 : decode cX11_uses 69 = .ok (.iload 5, 2) := gd_X11_uses_49.2.2.2.2.2.2.2.2.2
theorem gd_X11_uses_71 : decode cX11_uses 71 = .ok (.iload_n 2, 1) ∧ decode cX11_uses 72 = .ok (.invokevirtual 236, 3) ∧ decode cX11_uses 75 = .ok (.ifCond .eq 6, 3) ∧ decode cX11_uses 78 = .ok (.iinc 4 1, 3) ∧ decode cX11_uses 81 = .ok (.iinc 5 1, 3) ∧ decode cX11_uses 84 = .ok (.goto (-35), 3) ∧ decode cX11_uses 87 = .ok (.iload 4, 2) ∧ decode cX11_uses 89 = .ok (.ireturn, 1) ∧ decode cX11_mixed 47 = .ok (.iconst (-1), 1) ∧ decode cX11_mixed 48 = .ok (.ireturn, 1) := by decide +kernel
theorem dX11_uses_71 : decode cX11_uses 71 = .ok (.iload_n 2, 1) := gd_X11_uses_71.1
theorem dX11_uses_72 : decode cX11_uses 72 = .ok (.invokevirtual 236, 3) := gd_X11_uses_71.2.1
theorem dX11_uses_75 : decode cX11_uses 75 = .ok (.ifCond .eq 6, 3) := gd_X11_uses_71.2.2.1
theorem dX11_uses_78 : decode cX11_uses 78 = .ok (.iinc 4 1, 3) := gd_X11_uses_71.2.2.2.1
theorem dX11_uses_81 : decode cX11_uses 81 = .ok (.iinc 5 1, 3) := gd_X11_uses_71.2.2.2.2.1
theorem dX11_uses_84 : decode cX11_uses 84 = .ok (.goto (-35), 3) := gd_X11_uses_71.2.2.2.2.2.1
theorem dX11_uses_87 : decode cX11_uses 87 = .ok (.iload 4, 2) := gd_X11_uses_71.2.2.2.2.2.2.1
theorem dX11_uses_89 : decode cX11_uses 89 = .ok (.ireturn, 1) := gd_X11_uses_71.2.2.2.2.2.2.2.1
theorem dX11_mixed_47 : decode cX11_mixed 47 = .ok (.iconst (-1), 1) := gd_X11_uses_71.2.2.2.2.2.2.2.2.1
theorem dX11_mixed_48 : decode cX11_mixed 48 = .ok (.ireturn, 1) := gd_X11_uses_71.2.2.2.2.2.2.2.2.2
theorem gd_X11_mixed_106 : decode cX11_mixed 106 = .ok (.aload_n 0, 1) ∧ decode cX11_mixed 107 = .ok (.getfield 87, 3) ∧ decode cX11_mixed 110 = .ok (.invokevirtual 248, 3) ∧ decode cX11_mixed 113 = .ok (.ifCond .eq 23, 3) ∧ decode cX11_mixed 116 = .ok (.aload_n 0, 1) ∧ decode cX11_mixed 117 = .ok (.getfield 87, 3) ∧ decode cX11_mixed 120 = .ok (.getfield 251, 3) ∧ decode cX11_mixed 123 = .ok (.ifCond .ne 7, 3) ∧ decode cX11_mixed 126 = .ok (.aload_n 0, 1) ∧ decode cX11_mixed 127 = .ok (.invokevirtual 285, 3) := by decide +kernel
theorem dX11_mixed_106 : decode cX11_mixed 106 = .ok (.aload_n 0, 1) := gd_X11_mixed_106.1
theorem dX11_mixed_107 : decode cX11_mixed 107 = .ok (.getfield 87, 3) := gd_X11_mixed_106.2.1
theorem dX11_mixed_110 : decode cX11_mixed 110 = .ok (.invokevirtual 248, 3) := gd_X11_mixed_106.2.2.1
theorem dX11_mixed_113 : decode cX11_mixed 113 = .ok (.ifCond .eq 23, 3) := gd_X11_mixed_106.2.2.2.1
theorem dX11_mixed_116 : decode cX11_mixed 116 = .ok (.aload_n 0, 1) := gd_X11_mixed_106.2.2.2.2.1
theorem dX11_mixed_117 : decode cX11_mixed 117 = .ok (.getfield 87, 3) := gd_X11_mixed_106.2.2.2.2.2.1
theorem dX11_mixed_120 : decode cX11_mixed 120 = .ok (.getfield 251, 3) := gd_X11_mixed_106.2.2.2.2.2.2.1
theorem dX11_mixed_123 : decode cX11_mixed 123 = .ok (.ifCond .ne 7, 3) := gd_X11_mixed_106.2.2.2.2.2.2.2.1
theorem dX11_mixed_126 : decode cX11_mixed 126 = .ok (.aload_n 0, 1) := gd_X11_mixed_106.2.2.2.2.2.2.2.2.1
theorem dX11_mixed_127 : decode cX11_mixed 127 = .ok (.invokevirtual 285, 3) := gd_X11_mixed_106.2.2.2.2.2.2.2.2.2
theorem gd_X11_mixed_130 : decode cX11_mixed 130 = .ok (.iinc 4 1, 3) ∧ decode cX11_mixed 133 = .ok (.goto (-33), 3) ∧ decode cJ7_checkLength_df160 0 = .ok (.iload_n 1, 1) ∧ decode cJ7_checkLength_df160 1 = .ok (.iload_n 0, 1) ∧ decode cJ7_checkLength_df160 2 = .ok (.if_icmp .ge 35, 3) ∧ decode cJ7_checkLength_df160 37 = .ok (.return_, 1) ∧ decode cJ7_copyOfRange_39247 0 = .ok (.iload_n 1, 1) ∧ decode cJ7_copyOfRange_39247 1 = .ok (.ifCond .ne 9, 3) ∧ decode cJ7_copyOfRange_39247 4 = .ok (.iload_n 2, 1) ∧ decode cJ7_copyOfRange_39247 5 = .ok (.aload_n 0, 1) := by decide +kernel
theorem dX11_mixed_130 : decode cX11_mixed 130 = .ok (.iinc 4 1, 3) := gd_X11_mixed_130.1
theorem dX11_mixed_133 : decode cX11_mixed 133 = .ok (.goto (-33), 3) := gd_X11_mixed_130.2.1
theorem dJ7_checkLength_df160_0 : decode cJ7_checkLength_df160 0 = .ok (.iload_n 1, 1) := gd_X11_mixed_130.2.2.1
theorem dJ7_checkLength_df160_1 : decode cJ7_checkLength_df160 1 = .ok (.iload_n 0, 1) := gd_X11_mixed_130.2.2.2.1
theorem dJ7_checkLength_df160_2 : decode cJ7_checkLength_df160 2 = .ok (.if_icmp .ge 35, 3) := gd_X11_mixed_130.2.2.2.2.1
theorem dJ7_checkLength_df160_37 : decode cJ7_checkLength_df160 37 = .ok (.return_, 1) := gd_X11_mixed_130.2.2.2.2.2.1
theorem dJ7_copyOfRange_39247_0 : decode cJ7_copyOfRange_39247 0 = .ok (.iload_n 1, 1) := gd_X11_mixed_130.2.2.2.2.2.2.1
theorem dJ7_copyOfRange_39247_1 : decode cJ7_copyOfRange_39247 1 = .ok (.ifCond .ne 9, 3) := gd_X11_mixed_130.2.2.2.2.2.2.2.1
theorem dJ7_copyOfRange_39247_4 : decode cJ7_copyOfRange_39247 4 = .ok (.iload_n 2, 1) := gd_X11_mixed_130.2.2.2.2.2.2.2.2.1
theorem dJ7_copyOfRange_39247_5 : decode cJ7_copyOfRange_39247 5 = .ok (.aload_n 0, 1) := gd_X11_mixed_130.2.2.2.2.2.2.2.2.2
theorem gd_J7_copyOfRange_39247_6 : decode cJ7_copyOfRange_39247 6 = .ok (.arraylength, 1) ∧ decode cJ7_copyOfRange_39247 7 = .ok (.if_icmp .eq 10, 3) ∧ decode cJ7_copyOfRange_39247 10 = .ok (.aload_n 0, 1) ∧ decode cJ7_copyOfRange_39247 11 = .ok (.iload_n 1, 1) ∧ decode cJ7_copyOfRange_39247 12 = .ok (.iload_n 2, 1) ∧ decode cJ7_copyOfRange_39247 13 = .ok (.invokestatic 339, 3) ∧ decode cJ7_copyOfRange_39247 16 = .ok (.areturn, 1) ∧ decode cJ7_copyOfRangeByte_39247 0 = .ok (.iload_n 1, 1) ∧ decode cJ7_copyOfRangeByte_39247 1 = .ok (.iload_n 2, 1) ∧ decode cJ7_copyOfRangeByte_39247 2 = .ok (.invokestatic 343, 3) := by decide +kernel
theorem dJ7_copyOfRange_39247_6 : decode cJ7_copyOfRange_39247 6 = .ok (.arraylength, 1) := gd_J7_copyOfRange_39247_6.1
theorem dJ7_copyOfRange_39247_7 : decode cJ7_copyOfRange_39247 7 = .ok (.if_icmp .eq 10, 3) := gd_J7_copyOfRange_39247_6.2.1
theorem dJ7_copyOfRange_39247_10 : decode cJ7_copyOfRange_39247 10 = .ok (.aload_n 0, 1) := gd_J7_copyOfRange_39247_6.2.2.1
theorem dJ7_copyOfRange_39247_11 : decode cJ7_copyOfRange_39247 11 = .ok (.iload_n 1, 1) := gd_J7_copyOfRange_39247_6.2.2.2.1
theorem dJ7_copyOfRange_39247_12 : decode cJ7_copyOfRange_39247 12 = .ok (.iload_n 2, 1) := gd_J7_copyOfRange_39247_6.2.2.2.2.1
theorem dJ7_copyOfRange_39247_13 : decode cJ7_copyOfRange_39247 13 = .ok (.invokestatic 339, 3) := gd_J7_copyOfRange_39247_6.2.2.2.2.2.1
theorem dJ7_copyOfRange_39247_16 : decode cJ7_copyOfRange_39247 16 = .ok (.areturn, 1) := gd_J7_copyOfRange_39247_6.2.2.2.2.2.2.1
theorem dJ7_copyOfRangeByte_39247_0 : decode cJ7_copyOfRangeByte_39247 0 = .ok (.iload_n 1, 1) := gd_J7_copyOfRange_39247_6.2.2.2.2.2.2.2.1
theorem dJ7_copyOfRangeByte_39247_1 : decode cJ7_copyOfRangeByte_39247 1 = .ok (.iload_n 2, 1) := gd_J7_copyOfRange_39247_6.2.2.2.2.2.2.2.2.1
theorem dJ7_copyOfRangeByte_39247_2 : decode cJ7_copyOfRangeByte_39247 2 = .ok (.invokestatic 343, 3) := gd_J7_copyOfRange_39247_6.2.2.2.2.2.2.2.2.2
theorem gd_J7_copyOfRangeByte_39247_5 : decode cJ7_copyOfRangeByte_39247 5 = .ok (.iload_n 2, 1) ∧ decode cJ7_copyOfRangeByte_39247 6 = .ok (.iload_n 1, 1) ∧ decode cJ7_copyOfRangeByte_39247 7 = .ok (.isub, 1) ∧ decode cJ7_copyOfRangeByte_39247 8 = .ok (.istore_n 3, 1) ∧ decode cJ7_copyOfRangeByte_39247 9 = .ok (.iload_n 3, 1) ∧ decode cJ7_copyOfRangeByte_39247 10 = .ok (.newarray .byte, 2) ∧ decode cJ7_copyOfRangeByte_39247 12 = .ok (.astore 4, 2) ∧ decode cJ7_copyOfRangeByte_39247 14 = .ok (.aload_n 0, 1) ∧ decode cJ7_copyOfRangeByte_39247 15 = .ok (.iload_n 1, 1) ∧ decode cJ7_copyOfRangeByte_39247 16 = .ok (.aload 4, 2) := by decide +kernel
theorem dJ7_copyOfRangeByte_39247_5 : decode cJ7_copyOfRangeByte_39247 5 = .ok (.iload_n 2, 1) := gd_J7_copyOfRangeByte_39247_5.1
theorem dJ7_copyOfRangeByte_39247_6 : decode cJ7_copyOfRangeByte_39247 6 = .ok (.iload_n 1, 1) := gd_J7_copyOfRangeByte_39247_5.2.1
theorem dJ7_copyOfRangeByte_39247_7 : decode cJ7_copyOfRangeByte_39247 7 = .ok (.isub, 1) := gd_J7_copyOfRangeByte_39247_5.2.2.1
theorem dJ7_copyOfRangeByte_39247_8 : decode cJ7_copyOfRangeByte_39247 8 = .ok (.istore_n 3, 1) := gd_J7_copyOfRangeByte_39247_5.2.2.2.1
theorem dJ7_copyOfRangeByte_39247_9 : decode cJ7_copyOfRangeByte_39247 9 = .ok (.iload_n 3, 1) := gd_J7_copyOfRangeByte_39247_5.2.2.2.2.1
theorem dJ7_copyOfRangeByte_39247_10 : decode cJ7_copyOfRangeByte_39247 10 = .ok (.newarray .byte, 2) := gd_J7_copyOfRangeByte_39247_5.2.2.2.2.2.1
theorem dJ7_copyOfRangeByte_39247_12 : decode cJ7_copyOfRangeByte_39247 12 = .ok (.astore 4, 2) := gd_J7_copyOfRangeByte_39247_5.2.2.2.2.2.2.1
theorem dJ7_copyOfRangeByte_39247_14 : decode cJ7_copyOfRangeByte_39247 14 = .ok (.aload_n 0, 1) := gd_J7_copyOfRangeByte_39247_5.2.2.2.2.2.2.2.1
theorem dJ7_copyOfRangeByte_39247_15 : decode cJ7_copyOfRangeByte_39247 15 = .ok (.iload_n 1, 1) := gd_J7_copyOfRangeByte_39247_5.2.2.2.2.2.2.2.2.1
theorem dJ7_copyOfRangeByte_39247_16 : decode cJ7_copyOfRangeByte_39247 16 = .ok (.aload 4, 2) := gd_J7_copyOfRangeByte_39247_5.2.2.2.2.2.2.2.2.2
theorem gd_J7_copyOfRangeByte_39247_18 : decode cJ7_copyOfRangeByte_39247 18 = .ok (.iconst 0, 1) ∧ decode cJ7_copyOfRangeByte_39247 19 = .ok (.aload_n 0, 1) ∧ decode cJ7_copyOfRangeByte_39247 20 = .ok (.arraylength, 1) ∧ decode cJ7_copyOfRangeByte_39247 21 = .ok (.iload_n 1, 1) ∧ decode cJ7_copyOfRangeByte_39247 22 = .ok (.isub, 1) ∧ decode cJ7_copyOfRangeByte_39247 23 = .ok (.iload_n 3, 1) ∧ decode cJ7_copyOfRangeByte_39247 24 = .ok (.invokestatic 304, 3) ∧ decode cJ7_copyOfRangeByte_39247 27 = .ok (.invokestatic 150, 3) ∧ decode cJ7_copyOfRangeByte_39247 30 = .ok (.aload 4, 2) ∧ decode cJ7_copyOfRangeByte_39247 32 = .ok (.areturn, 1) := by decide +kernel
theorem dJ7_copyOfRangeByte_39247_18 : decode cJ7_copyOfRangeByte_39247 18 = .ok (.iconst 0, 1) := gd_J7_copyOfRangeByte_39247_18.1
theorem dJ7_copyOfRangeByte_39247_19 : decode cJ7_copyOfRangeByte_39247 19 = .ok (.aload_n 0, 1) := gd_J7_copyOfRangeByte_39247_18.2.1
theorem dJ7_copyOfRangeByte_39247_20 : decode cJ7_copyOfRangeByte_39247 20 = .ok (.arraylength, 1) := gd_J7_copyOfRangeByte_39247_18.2.2.1
theorem dJ7_copyOfRangeByte_39247_21 : decode cJ7_copyOfRangeByte_39247 21 = .ok (.iload_n 1, 1) := gd_J7_copyOfRangeByte_39247_18.2.2.2.1
theorem dJ7_copyOfRangeByte_39247_22 : decode cJ7_copyOfRangeByte_39247 22 = .ok (.isub, 1) := gd_J7_copyOfRangeByte_39247_18.2.2.2.2.1
theorem dJ7_copyOfRangeByte_39247_23 : decode cJ7_copyOfRangeByte_39247 23 = .ok (.iload_n 3, 1) := gd_J7_copyOfRangeByte_39247_18.2.2.2.2.2.1
theorem dJ7_copyOfRangeByte_39247_24 : decode cJ7_copyOfRangeByte_39247 24 = .ok (.invokestatic 304, 3) := gd_J7_copyOfRangeByte_39247_18.2.2.2.2.2.2.1
theorem dJ7_copyOfRangeByte_39247_27 : decode cJ7_copyOfRangeByte_39247 27 = .ok (.invokestatic 150, 3) := gd_J7_copyOfRangeByte_39247_18.2.2.2.2.2.2.2.1
theorem dJ7_copyOfRangeByte_39247_30 : decode cJ7_copyOfRangeByte_39247 30 = .ok (.aload 4, 2) := gd_J7_copyOfRangeByte_39247_18.2.2.2.2.2.2.2.2.1
theorem dJ7_copyOfRangeByte_39247_32 : decode cJ7_copyOfRangeByte_39247 32 = .ok (.areturn, 1) := gd_J7_copyOfRangeByte_39247_18.2.2.2.2.2.2.2.2.2
set_option maxHeartbeats 4000000 in
set_option maxRecDepth 100000 in
theorem bm_X10_init {p : Program} {l : Launch} {e : Env} {s : State} {m : MethodId} {args : Array Value} {below : List Frame} {meth : Method} {c : Code} {Q : State → Prop} {A : Nat → Prop} {dC : Nat → ClassId} {dI : Nat → Nat → Nat} {kk : Nat → ClassId} {ad : Nat → Nat} {ws : va_W} {G : Nat → Nat → Int32} {P : Nat → Nat → Option Nat} {U : Nat → Nat → Int64} {V : Nat → Nat → Nat → Int32} {X : Nat → Nat → Nat → Int64} {O : Nat → Nat → Nat → Option Nat} {kd : Nat → Nat} {ln : Nat → Nat} {cnt : Nat} {H : Heap} {locs : List Loc} {ls : Array Slot} (this : Nat) (p0 : Int32) (p1 : Int32) (hk_this : kd this = 11) (c_G : Nat → Nat → Int32) (c_P : Nat → Nat → Option Nat) (c_U : Nat → Nat → Int64) (c_V : Nat → Nat → Nat → Int32) (c_X : Nat → Nat → Nat → Int64) (c_O : Nat → Nat → Nat → Option Nat) (c_kd : Nat → Nat) (c_ln : Nat → Nat) (c_cnt : Nat) (uc us : Nat) (hr : f_X10_init G P U V X O kd ln cnt this p0 p1 = some ((c_G, c_P, c_U, c_V, c_X, c_O, c_kd, c_ln, c_cnt), uc, us)) (hx : p.tables.exec = Jvm.exec) (hb : c.code = cX10_init) (hml : c.maxLocals = 3) (hown : s.vm.findClass RX10 = some m.cls) (hts : ∀ w ∈ vmX10_init, w.before args s = true) (hin : meth.name = "<init>") (hA : ∀ q : Nat, s.heap.size ≤ q → A q) (hK : va_K (dC, dI) vwCl (cT kk) s) (hW : LW ws ad kk kd ln G P U V X O) (hT : TYP kd P O (V 0) cnt) (hP : va_P (dC, dI) vwCl ws H) (hD : va_D A ws) (hS : va_S A s.heap H locs) (hl : lv_has ls 3 [(0, .ref (ad this)), (1, .int p0), (2, .int p1)])
    (K : ∀ (pc : Nat) (ls : Array Slot) (c_Gz : Nat → Nat → Int32) (c_Pz : Nat → Nat → Option Nat) (c_Uz : Nat → Nat → Int64) (c_Vz : Nat → Nat → Nat → Int32) (c_Xz : Nat → Nat → Nat → Int64) (c_Oz : Nat → Nat → Nat → Option Nat) (c_kdz : Nat → Nat) (c_lnz : Nat → Nat) (c_cntz : Nat) (adz : Nat → Nat) (ws : va_W) (H : Heap) (locs : List Loc), some (c_Gz, c_Pz, c_Uz, c_Vz, c_Xz, c_Oz, c_kdz, c_lnz, c_cntz) = some (c_G, c_P, c_U, c_V, c_X, c_O, c_kd, c_ln, c_cnt) → decode cX10_init pc = .ok (.return_, 1) → adEx kd ad c_kdz adz → LW ws adz kk c_kdz c_lnz c_Gz c_Pz c_Uz c_Vz c_Xz c_Oz → TYP c_kdz c_Pz c_Oz (c_Vz 0) c_cntz → va_P (dC, dI) vwCl ws H → va_D A ws → va_S A s.heap H locs → W p l e ({ frames := 3, cells := uc, slots := us, locals := 90 } : Room) s m args below meth c H locs uc us Q (F0 m pc ls [])) : W p l e ({ frames := 3, cells := uc, slots := us, locals := 90 } : Room) s m args below meth c H locs 0 0 Q (F0 m 0 ls []) := by
  have hu1 : 0 + uc = uc := Nat.zero_add _
  have hu2 : 0 + us = us := Nat.zero_add _
  have hE : adEx kd ad kd ad := ⟨fun _ _ => rfl, fun _ _ => rfl⟩
  unfold f_X10_init at hr
  refine lv_aload_n hx hb dX10_init_0 rfl (lv_at hl 0 rfl) ?_
  refine W.objInit hx hb hown (hts (.methodLink RX10 3 objectInit) ic_493) (hts (.instanceMethod objectInit) ic_494) (hts (.code objectInit ⟨#[0xb1]⟩ 1 none) ic_495) rfl (by rw [hml]; exact hl.1) rfl dX10_init_1 (Nat.le_of_ble_eq_true rfl) (Nat.le_of_ble_eq_true rfl) ?_
  refine W.eq (g2 := F0 m 4 ls []) rfl ?_
  refine lv_aload_n hx hb dX10_init_4 rfl (lv_at hl 0 rfl) ?_
  refine lv_iconst (v := 0) hx hb dX10_init_5 (by decide +kernel) ?_
  obtain ⟨i1, hi1⟩ := hW.o10 hk_this
  refine va_put (D := (dC, dI)) (ci := 10) (v := .int 0) (ty := .int) (C := RX10) (T := TX10) (N := 4) hx hb hts inX10 tyX10 tyX10_ok nmX10 hown hK hP hD hS i1 hi1 rfl 3 (by decide) (hts (.fieldLink RX10 9 "SpellTurner$WordRow" "count" "I") ic_5) (fun _ h9 => h9) rfl (by decide +kernel) rfl rfl (Nat.le_of_ble_eq_true rfl) dX10_init_6 (fun H locs hP2 hD2 hS => ?_)
  obtain ⟨m6, w2, em6, hP, hD, hW⟩ : ∃ (z : Nat → Int32) (w : va_W), z = (va_up (G 203) this 0) ∧ va_P (dC, dI) vwCl w H ∧ va_D A w ∧ LW w ad kk kd ln (va_up G 203 z) P U V X O := ⟨_, _, rfl, hP2, hD2, hW.setG hD hi1 (by rw [hk_this]; decide) 203 0 (by rw [hk_this]; rfl)⟩
  replace hr := vlS hr m6 em6
  clear em6
  refine lv_aload_n hx hb dX10_init_9 rfl (lv_at hl 0 rfl) ?_
  refine lv_iload_n hx hb dX10_init_10 rfl (lv_at hl 2 rfl) ?_
  obtain ⟨i3, hi3⟩ := hW.o10 hk_this
  refine va_putF (D := (dC, dI)) (ci := 10) (v := .int p1) (ty := .int) (C := RX10) (T := TX10) (N := 4) hx hb hts inX10 tyX10 tyX10_ok nmX10 hown hK hP hD hS i3 hi3 rfl 0 (by decide) (hts (.fieldLink RX10 15 "SpellTurner$WordRow" "width" "I") ic_13) (fun _ h9 => h9) rfl hin rfl (by decide +kernel) rfl rfl (Nat.le_of_ble_eq_true rfl) dX10_init_11 (fun H locs hP2 hD2 hS => ?_)
  obtain ⟨m11, w4, em11, hP, hD, hW⟩ : ∃ (z : Nat → Int32) (w : va_W), z = (va_up (G 200) this p1) ∧ va_P (dC, dI) vwCl w H ∧ va_D A w ∧ LW w ad kk kd ln (va_up (va_up G 203 m6) 200 z) P U V X O := ⟨_, _, rfl, hP2, hD2, hW.setG hD hi3 (by rw [hk_this]; decide) 200 p1 (by rw [hk_this]; rfl)⟩
  replace hr := vlS hr m11 em11
  clear em11
  refine lv_aload_n hx hb dX10_init_14 rfl (lv_at hl 0 rfl) ?_
  refine lv_iload_n hx hb dX10_init_15 rfl (lv_at hl 1 rfl) ?_
  refine lv_iload_n hx hb dX10_init_16 rfl (lv_at hl 2 rfl) ?_
  refine lv_imul hx hb dX10_init_17 ?_
  replace hr := iteS hr
  obtain ⟨hi18, hr⟩ := hr
  replace hr := tkS hr
  obtain ⟨zw1, zw2, hr, hq1, hq2⟩ := hr
  refine va_newa (atype := .byte) (a0 := ((Int32.toNatClampNeg (p0 * p1)), .inl (fun _ => 0))) (ty := .byte) (N' := (Int32.toNatClampNeg (p0 * p1))) hx hb (hts (.arrayClass .byte) ic_496) rfl hK hP hD hS hA (fun _ => rfl) (nabS hi18).1 rfl (nabB hi18 (by decide)) (by show _ ≤ uc; omega) (by show _ ≤ us; omega) dX10_init_18 (fun q18 cA H hK2 hP2 hD2 hS => ?_)
  obtain rfl : cA = kk 0 := kA_byte hK2
  clear hK2
  replace hr := newcS hr hW hT hD2 (by decide) (fun _ => rfl)
  obtain ⟨G18, P18, U18, V18, X18, O18, kd18, ln18, cnt18, ad18, hr, hW, hT, hE2, hk_n18, hqa⟩ := hr
  subst hqa
  obtain ⟨w5, hP, hD, hW⟩ : ∃ w : va_W, va_P (dC, dI) vwCl w H ∧ va_D A w ∧ LW w ad18 kk kd18 ln18 G18 P18 U18 V18 X18 O18 := ⟨_, hP2, hD2, hW⟩
  clear hP2 hD2
  have ea_this : ad this = ad18 this := (hE2.1 this (by rw [hk_this]; decide)).symm
  have hk5_this := (hE2.2 this (by rw [hk_this]; decide)).trans hk_this
  rw [ea_this] at hl
  rw [ea_this]
  clear ea_this
  replace hE := adE hE hE2
  clear hE2
  obtain ⟨ccn6, eccn6⟩ : ∃ y : Nat, y = (0 + 1) := ⟨_, rfl⟩
  obtain ⟨csn6, ecsn6⟩ : ∃ y : Nat, y = (0 + (Int32.toNatClampNeg (p0 * p1))) := ⟨_, rfl⟩
  refine W.widen (k := ccn6) (n := csn6) (Nat.le_of_eq eccn6.symm) (Nat.le_of_eq ecsn6.symm) ?_
  replace hu1 : ccn6 + zw1 = uc := by omega
  replace hu2 : csn6 + zw2 = us := by omega
  clear eccn6 ecsn6
  obtain ⟨i7, hi7⟩ := hW.o10 hk5_this
  refine va_putF (D := (dC, dI)) (ci := 10) (v := .ref (ad18 cnt)) (ty := (.array .byte)) (C := RX10) (T := TX10) (N := 4) hx hb hts inX10 tyX10 tyX10_ok nmX10 hown hK hP hD hS i7 hi7 rfl 1 (by decide) (hts (.fieldLink RX10 18 "SpellTurner$WordRow" "letters" "[B") ic_14) (fun _ h9 => h9) rfl hin rfl (by decide +kernel) rfl rfl (Nat.le_of_ble_eq_true rfl) dX10_init_20 (fun H locs hP2 hD2 hS => ?_)
  obtain ⟨m20, w8, em20, hP, hD, hW⟩ : ∃ (z : Nat → Option Nat) (w : va_W), z = (va_up (P18 201) this (some cnt)) ∧ va_P (dC, dI) vwCl w H ∧ va_D A w ∧ LW w ad18 kk kd18 ln18 G18 (va_up P18 201 z) U18 V18 X18 O18 := ⟨_, _, rfl, hP2, hD2, hW.setP hD hi7 (by rw [hk5_this]; decide) 201 (some cnt) (by rw [hk5_this]; rfl)⟩
  replace hT : TYP kd18 (va_up P18 201 m20) O18 (V18 0) cnt18 := by rw [em20]; exact hT.setP 201 this cnt hk_n18
  replace hr := vlS hr m20 em20
  clear em20
  refine lv_aload_n hx hb dX10_init_23 rfl (lv_at hl 0 rfl) ?_
  refine lv_iload_n hx hb dX10_init_24 rfl (lv_at hl 1 rfl) ?_
  replace hr := iteS hr
  obtain ⟨hi25, hr⟩ := hr
  replace hr := tkS hr
  obtain ⟨zw1, zw2, hr, hq1, hq2⟩ := hr
  refine va_newa (atype := .int) (a0 := ((Int32.toNatClampNeg p0), .inl (fun _ => 0))) (ty := .int) (N' := (Int32.toNatClampNeg p0)) hx hb (hts (.arrayClass .int) ic_497) rfl hK hP hD hS hA (fun _ => rfl) (nabS hi25).1 rfl (nabB hi25 (by decide)) (by show _ ≤ uc; omega) (by show _ ≤ us; omega) dX10_init_25 (fun q25 cA H hK2 hP2 hD2 hS => ?_)
  obtain rfl : cA = kk 1 := kA_int hK2
  clear hK2
  replace hr := newcS hr hW hT hD2 (by decide) (fun _ => rfl)
  obtain ⟨G25, P25, U25, V25, X25, O25, kd25, ln25, cnt25, ad25, hr, hW, hT, hE2, hk_n25, hqa⟩ := hr
  subst hqa
  obtain ⟨w9, hP, hD, hW⟩ : ∃ w : va_W, va_P (dC, dI) vwCl w H ∧ va_D A w ∧ LW w ad25 kk kd25 ln25 G25 P25 U25 V25 X25 O25 := ⟨_, hP2, hD2, hW⟩
  clear hP2 hD2
  have ea_this : ad18 this = ad25 this := (hE2.1 this (by rw [hk5_this]; decide)).symm
  have hk9_this := (hE2.2 this (by rw [hk5_this]; decide)).trans hk5_this
  rw [ea_this] at hl
  rw [ea_this]
  clear ea_this
  replace hE := adE hE hE2
  clear hE2
  obtain ⟨ccn10, eccn10⟩ : ∃ y : Nat, y = (ccn6 + 1) := ⟨_, rfl⟩
  obtain ⟨csn10, ecsn10⟩ : ∃ y : Nat, y = (csn6 + (Int32.toNatClampNeg p0)) := ⟨_, rfl⟩
  refine W.widen (k := ccn10) (n := csn10) (Nat.le_of_eq eccn10.symm) (Nat.le_of_eq ecsn10.symm) ?_
  replace hu1 : ccn10 + zw1 = uc := by omega
  replace hu2 : csn10 + zw2 = us := by omega
  clear eccn10 ecsn10
  obtain ⟨i11, hi11⟩ := hW.o10 hk9_this
  refine va_putF (D := (dC, dI)) (ci := 10) (v := .ref (ad25 cnt18)) (ty := (.array .int)) (C := RX10) (T := TX10) (N := 4) hx hb hts inX10 tyX10 tyX10_ok nmX10 hown hK hP hD hS i11 hi11 rfl 2 (by decide) (hts (.fieldLink RX10 22 "SpellTurner$WordRow" "lengths" "[I") ic_6) (fun _ h9 => h9) rfl hin rfl (by decide +kernel) rfl rfl (Nat.le_of_ble_eq_true rfl) dX10_init_27 (fun H locs hP2 hD2 hS => ?_)
  obtain ⟨m27, w12, em27, hP, hD, hW⟩ : ∃ (z : Nat → Option Nat) (w : va_W), z = (va_up (P25 202) this (some cnt18)) ∧ va_P (dC, dI) vwCl w H ∧ va_D A w ∧ LW w ad25 kk kd25 ln25 G25 (va_up P25 202 z) U25 V25 X25 O25 := ⟨_, _, rfl, hP2, hD2, hW.setP hD hi11 (by rw [hk9_this]; decide) 202 (some cnt18) (by rw [hk9_this]; rfl)⟩
  replace hT : TYP kd25 (va_up P25 202 m27) O25 (V25 0) cnt25 := by rw [em27]; exact hT.setP 202 this cnt18 hk_n25
  replace hr := vlS hr m27 em27
  clear em27
  replace hr := retS hr
  obtain ⟨hr, hv1, hv2⟩ := hr
  refine W.widen (k := uc) (n := us) (by omega) (by omega) ?_
  exact K 30 ls _ _ _ _ _ _ _ _ _ ad25 w12 H _ hr dX10_init_30 hE hW hT hP hD hS
set_option maxHeartbeats 4000000 in
set_option maxRecDepth 100000 in
theorem m_X10_init (l : Launch) (dC : Nat → ClassId) (dI : Nat → Nat → Nat) (kk : Nat → ClassId) (ad : Nat → Nat) (sz : Nat) (ws : va_W) (G : Nat → Nat → Int32) (P : Nat → Nat → Option Nat) (U : Nat → Nat → Int64) (V : Nat → Nat → Nat → Int32) (X : Nat → Nat → Nat → Int64) (O : Nat → Nat → Nat → Option Nat) (kd : Nat → Nat) (ln : Nat → Nat) (cnt : Nat) (this : Nat) (p0 : Int32) (p1 : Int32) (hk_this : kd this = 11) (hW : LW ws ad kk kd ln G P U V X O) (hT : TYP kd P O (V 0) cnt) (c_G : Nat → Nat → Int32) (c_P : Nat → Nat → Option Nat) (c_U : Nat → Nat → Int64) (c_V : Nat → Nat → Nat → Int32) (c_X : Nat → Nat → Nat → Int64) (c_O : Nat → Nat → Nat → Option Nat) (c_kd : Nat → Nat) (c_ln : Nat → Nat) (c_cnt : Nat) (uc us : Nat) (hr : f_X10_init G P U V X O kd ln cnt this p0 p1 = some ((c_G, c_P, c_U, c_V, c_X, c_O, c_kd, c_ln, c_cnt), uc, us)) : Met l yX10_init vmX10_init ({ frames := 3, cells := uc, slots := us, locals := 90 } : Room) (va_Pc [.ref (ad this), .int p0, .int p1] (fun U => U.heap.size = sz ∧ va_P (dC, dI) vwCl ws U.heap ∧ va_K (dC, dI) vwCl (cT kk) U ∧ va_D (fun _ => True) ws)) (va_Qv (fun (x : (va_W × (Nat → Nat))) => LW x.1 x.2 kk c_kd c_ln c_G c_P c_U c_V c_X c_O ∧ TYP c_kd c_P c_O (c_V 0) c_cnt ∧ adEx kd ad c_kd x.2) (fun x t => va_P (dC, dI) vwCl x.1 t.heap ∧ va_K (dC, dI) vwCl (cT kk) t ∧ va_D (va_A ws sz) x.1) (va_A ws sz)) uc us (va_A ws sz) := by
  refine Met.ofW (cc := cX10_init) (maxL := 3) (ret := none) (by decide) rfl ?_
  intro p e s m args below meth c s₁ B hml hv
  obtain ⟨rfl, hsz, hP, hK, hD0⟩ := hv
  have hx := B.exec
  have hb := B.bytes
  have hrt := B.returns
  have hts := atoms_spec (ws := vmX10_init) B.pre
  have hown : s.vm.findClass RX10 = some m.cls := findClass_of_methodNamed B.named
  subst hsz
  have hD := hD0.self (sz := s.heap.size)
  generalize hAe : va_A ws s.heap.size = A at hD ⊢
  have hA : ∀ q : Nat, s.heap.size ≤ q → A q := fun q h => by rw [← hAe]; exact Or.inr h
  have hS : va_S A s.heap s.heap [] := va_S.rf
  have hl := lv_entry ([.ref (ad this), .int p0, .int p1]) (n := 3) (Nat.le_of_ble_eq_true rfl)
  rw [lg_entry_eq]
  generalize (lg_sl ([.ref (ad this), .int p0, .int p1]) ++ List.replicate (3 - (lg_sl ([.ref (ad this), .int p0, .int p1])).length) Slot.unset).toArray = ls at hl ⊢
  have hin : meth.name = "<init>" := (name_of_methodNamed B.named B.method).1
  exact bm_X10_init this p0 p1 hk_this c_G c_P c_U c_V c_X c_O c_kd c_ln c_cnt uc us hr hx hb hml hown hts hin hA hK hW hT hP hD hS hl (fun pc ls c_Gz c_Pz c_Uz c_Vz c_Xz c_Oz c_kdz c_lnz c_cntz adz ws H locs he hd hE hW hT hP hD hS => by cases he; exact W.vret hx hb hrt (fun t ht hW9 => ⟨⟨(ws, adz), rfl, ⟨hW, hT, hE⟩, by rw [ht]; exact hP, va_K.moved hW9.alike hK, hD⟩, hS.F ht⟩) hS.2.2 hd)
set_option maxHeartbeats 4000000 in
set_option maxRecDepth 100000 in
theorem bm_X1_init {p : Program} {l : Launch} {e : Env} {s : State} {m : MethodId} {args : Array Value} {below : List Frame} {meth : Method} {c : Code} {Q : State → Prop} {A : Nat → Prop} {dC : Nat → ClassId} {dI : Nat → Nat → Nat} {kk : Nat → ClassId} {ad : Nat → Nat} {ws : va_W} {G : Nat → Nat → Int32} {P : Nat → Nat → Option Nat} {U : Nat → Nat → Int64} {V : Nat → Nat → Nat → Int32} {X : Nat → Nat → Nat → Int64} {O : Nat → Nat → Nat → Option Nat} {kd : Nat → Nat} {ln : Nat → Nat} {cnt : Nat} {H : Heap} {locs : List Loc} {ls : Array Slot} (this : Nat) (p0 : Nat) (p1 : Nat) (hk_this : kd this = 2) (hk_p0 : kd p0 = 100) (hk_p1 : kd p1 = 100) (c_G : Nat → Nat → Int32) (c_P : Nat → Nat → Option Nat) (c_U : Nat → Nat → Int64) (c_V : Nat → Nat → Nat → Int32) (c_X : Nat → Nat → Nat → Int64) (c_O : Nat → Nat → Nat → Option Nat) (c_kd : Nat → Nat) (c_ln : Nat → Nat) (c_cnt : Nat) (uc us : Nat) (hr : f_X1_init G P U V X O kd ln cnt this p0 p1 = some ((c_G, c_P, c_U, c_V, c_X, c_O, c_kd, c_ln, c_cnt), uc, us)) (hx : p.tables.exec = Jvm.exec) (hb : c.code = cX1_init) (hml : c.maxLocals = 3) (hown : s.vm.findClass RX1 = some m.cls) (hts : ∀ w ∈ vmX1_init, w.before args s = true) (hin : meth.name = "<init>") (hA : ∀ q : Nat, s.heap.size ≤ q → A q) (hK : va_K (dC, dI) vwCl (cT kk) s) (hW : LW ws ad kk kd ln G P U V X O) (hT : TYP kd P O (V 0) cnt) (hP : va_P (dC, dI) vwCl ws H) (hD : va_D A ws) (hS : va_S A s.heap H locs) (hl : lv_has ls 3 [(0, .ref (ad this)), (1, .ref (ad p0)), (2, .ref (ad p1))])
    (K : ∀ (pc : Nat) (ls : Array Slot) (c_Gz : Nat → Nat → Int32) (c_Pz : Nat → Nat → Option Nat) (c_Uz : Nat → Nat → Int64) (c_Vz : Nat → Nat → Nat → Int32) (c_Xz : Nat → Nat → Nat → Int64) (c_Oz : Nat → Nat → Nat → Option Nat) (c_kdz : Nat → Nat) (c_lnz : Nat → Nat) (c_cntz : Nat) (adz : Nat → Nat) (ws : va_W) (H : Heap) (locs : List Loc), some (c_Gz, c_Pz, c_Uz, c_Vz, c_Xz, c_Oz, c_kdz, c_lnz, c_cntz) = some (c_G, c_P, c_U, c_V, c_X, c_O, c_kd, c_ln, c_cnt) → decode cX1_init pc = .ok (.return_, 1) → adEx kd ad c_kdz adz → LW ws adz kk c_kdz c_lnz c_Gz c_Pz c_Uz c_Vz c_Xz c_Oz → TYP c_kdz c_Pz c_Oz (c_Vz 0) c_cntz → va_P (dC, dI) vwCl ws H → va_D A ws → va_S A s.heap H locs → W p l e ({ frames := 3, cells := uc, slots := us, locals := 90 } : Room) s m args below meth c H locs uc us Q (F0 m pc ls [])) : W p l e ({ frames := 3, cells := uc, slots := us, locals := 90 } : Room) s m args below meth c H locs 0 0 Q (F0 m 0 ls []) := by
  have hu1 : 0 + uc = uc := Nat.zero_add _
  have hu2 : 0 + us = us := Nat.zero_add _
  have hE : adEx kd ad kd ad := ⟨fun _ _ => rfl, fun _ _ => rfl⟩
  unfold f_X1_init at hr
  refine lv_aload_n hx hb dX1_init_0 rfl (lv_at hl 0 rfl) ?_
  refine W.objInit hx hb hown (hts (.methodLink RX1 1 objectInit) ic_499) (hts (.instanceMethod objectInit) ic_494) (hts (.code objectInit ⟨#[0xb1]⟩ 1 none) ic_495) rfl (by rw [hml]; exact hl.1) rfl dX1_init_1 (Nat.le_of_ble_eq_true rfl) (Nat.le_of_ble_eq_true rfl) ?_
  refine W.eq (g2 := F0 m 4 ls []) rfl ?_
  refine lv_aload_n hx hb dX1_init_4 rfl (lv_at hl 0 rfl) ?_
  refine lv_iconst (v := 0) hx hb dX1_init_5 (by decide +kernel) ?_
  replace hr := iteS hr
  obtain ⟨hi6, hr⟩ := hr
  replace hr := tkS hr
  obtain ⟨zw1, zw2, hr, hq1, hq2⟩ := hr
  refine va_newa (atype := .byte) (a0 := ((Int32.toNatClampNeg 0), .inl (fun _ => 0))) (ty := .byte) (N' := (Int32.toNatClampNeg 0)) hx hb (hts (.arrayClass .byte) ic_496) rfl hK hP hD hS hA (fun _ => rfl) (nabS hi6).1 rfl (nabB hi6 (by decide)) (by show _ ≤ uc; omega) (by show _ ≤ us; omega) dX1_init_6 (fun q6 cA H hK2 hP2 hD2 hS => ?_)
  obtain rfl : cA = kk 0 := kA_byte hK2
  clear hK2
  replace hr := newcS hr hW hT hD2 (by decide) (fun _ => rfl)
  obtain ⟨G6, P6, U6, V6, X6, O6, kd6, ln6, cnt6, ad6, hr, hW, hT, hE2, hk_n6, hqa⟩ := hr
  subst hqa
  obtain ⟨w1, hP, hD, hW⟩ : ∃ w : va_W, va_P (dC, dI) vwCl w H ∧ va_D A w ∧ LW w ad6 kk kd6 ln6 G6 P6 U6 V6 X6 O6 := ⟨_, hP2, hD2, hW⟩
  clear hP2 hD2
  have ea_this : ad this = ad6 this := (hE2.1 this (by rw [hk_this]; decide)).symm
  have hk1_this := (hE2.2 this (by rw [hk_this]; decide)).trans hk_this
  have ea_p0 : ad p0 = ad6 p0 := (hE2.1 p0 (by rw [hk_p0]; decide)).symm
  have hk1_p0 := (hE2.2 p0 (by rw [hk_p0]; decide)).trans hk_p0
  have ea_p1 : ad p1 = ad6 p1 := (hE2.1 p1 (by rw [hk_p1]; decide)).symm
  have hk1_p1 := (hE2.2 p1 (by rw [hk_p1]; decide)).trans hk_p1
  rw [ea_this, ea_p0, ea_p1] at hl
  rw [ea_this]
  clear ea_this ea_p0 ea_p1
  replace hE := adE hE hE2
  clear hE2
  obtain ⟨ccn2, eccn2⟩ : ∃ y : Nat, y = (0 + 1) := ⟨_, rfl⟩
  obtain ⟨csn2, ecsn2⟩ : ∃ y : Nat, y = (0 + (Int32.toNatClampNeg 0)) := ⟨_, rfl⟩
  refine W.widen (k := ccn2) (n := csn2) (Nat.le_of_eq eccn2.symm) (Nat.le_of_eq ecsn2.symm) ?_
  replace hu1 : ccn2 + zw1 = uc := by omega
  replace hu2 : csn2 + zw2 = us := by omega
  clear eccn2 ecsn2
  obtain ⟨i3, hi3⟩ := hW.o1 hk1_this
  refine va_put (D := (dC, dI)) (ci := 1) (v := .ref (ad6 cnt)) (ty := (.array .byte)) (C := RX1) (T := TX1) (N := 6) hx hb hts inX1 tyX1 tyX1_ok nmX1 hown hK hP hD hS i3 hi3 rfl 2 (by decide) (hts (.fieldLink RX1 7 "SpellTurner$Law" "ahead" "[B") ic_191) (fun _ h9 => h9) rfl (by decide +kernel) rfl rfl (Nat.le_of_ble_eq_true rfl) dX1_init_8 (fun H locs hP2 hD2 hS => ?_)
  obtain ⟨m8, w4, em8, hP, hD, hW⟩ : ∃ (z : Nat → Option Nat) (w : va_W), z = (va_up (P6 22) this (some cnt)) ∧ va_P (dC, dI) vwCl w H ∧ va_D A w ∧ LW w ad6 kk kd6 ln6 G6 (va_up P6 22 z) U6 V6 X6 O6 := ⟨_, _, rfl, hP2, hD2, hW.setP hD hi3 (by rw [hk1_this]; decide) 22 (some cnt) (by rw [hk1_this]; rfl)⟩
  replace hT : TYP kd6 (va_up P6 22 m8) O6 (V6 0) cnt6 := by rw [em8]; exact hT.setP 22 this cnt hk_n6
  replace hr := vlS hr m8 em8
  clear em8
  refine lv_aload_n hx hb dX1_init_11 rfl (lv_at hl 0 rfl) ?_
  refine lv_iconst (v := 0) hx hb dX1_init_12 (by decide +kernel) ?_
  replace hr := iteS hr
  obtain ⟨hi13, hr⟩ := hr
  replace hr := tkS hr
  obtain ⟨zw1, zw2, hr, hq1, hq2⟩ := hr
  refine va_newa (atype := .byte) (a0 := ((Int32.toNatClampNeg 0), .inl (fun _ => 0))) (ty := .byte) (N' := (Int32.toNatClampNeg 0)) hx hb (hts (.arrayClass .byte) ic_496) rfl hK hP hD hS hA (fun _ => rfl) (nabS hi13).1 rfl (nabB hi13 (by decide)) (by show _ ≤ uc; omega) (by show _ ≤ us; omega) dX1_init_13 (fun q13 cA H hK2 hP2 hD2 hS => ?_)
  obtain rfl : cA = kk 0 := kA_byte hK2
  clear hK2
  replace hr := newcS hr hW hT hD2 (by decide) (fun _ => rfl)
  obtain ⟨G13, P13, U13, V13, X13, O13, kd13, ln13, cnt13, ad13, hr, hW, hT, hE2, hk_n13, hqa⟩ := hr
  subst hqa
  obtain ⟨w5, hP, hD, hW⟩ : ∃ w : va_W, va_P (dC, dI) vwCl w H ∧ va_D A w ∧ LW w ad13 kk kd13 ln13 G13 P13 U13 V13 X13 O13 := ⟨_, hP2, hD2, hW⟩
  clear hP2 hD2
  have ea_this : ad6 this = ad13 this := (hE2.1 this (by rw [hk1_this]; decide)).symm
  have hk5_this := (hE2.2 this (by rw [hk1_this]; decide)).trans hk1_this
  have ea_p0 : ad6 p0 = ad13 p0 := (hE2.1 p0 (by rw [hk1_p0]; decide)).symm
  have hk5_p0 := (hE2.2 p0 (by rw [hk1_p0]; decide)).trans hk1_p0
  have ea_p1 : ad6 p1 = ad13 p1 := (hE2.1 p1 (by rw [hk1_p1]; decide)).symm
  have hk5_p1 := (hE2.2 p1 (by rw [hk1_p1]; decide)).trans hk1_p1
  rw [ea_this, ea_p0, ea_p1] at hl
  rw [ea_this]
  clear ea_this ea_p0 ea_p1
  replace hE := adE hE hE2
  clear hE2
  obtain ⟨ccn6, eccn6⟩ : ∃ y : Nat, y = (ccn2 + 1) := ⟨_, rfl⟩
  obtain ⟨csn6, ecsn6⟩ : ∃ y : Nat, y = (csn2 + (Int32.toNatClampNeg 0)) := ⟨_, rfl⟩
  refine W.widen (k := ccn6) (n := csn6) (Nat.le_of_eq eccn6.symm) (Nat.le_of_eq ecsn6.symm) ?_
  replace hu1 : ccn6 + zw1 = uc := by omega
  replace hu2 : csn6 + zw2 = us := by omega
  clear eccn6 ecsn6
  obtain ⟨i7, hi7⟩ := hW.o1 hk5_this
  refine va_put (D := (dC, dI)) (ci := 1) (v := .ref (ad13 cnt6)) (ty := (.array .byte)) (C := RX1) (T := TX1) (N := 6) hx hb hts inX1 tyX1 tyX1_ok nmX1 hown hK hP hD hS i7 hi7 rfl 3 (by decide) (hts (.fieldLink RX1 13 "SpellTurner$Law" "behind" "[B") ic_192) (fun _ h9 => h9) rfl (by decide +kernel) rfl rfl (Nat.le_of_ble_eq_true rfl) dX1_init_15 (fun H locs hP2 hD2 hS => ?_)
  obtain ⟨m15, w8, em15, hP, hD, hW⟩ : ∃ (z : Nat → Option Nat) (w : va_W), z = (va_up (P13 23) this (some cnt6)) ∧ va_P (dC, dI) vwCl w H ∧ va_D A w ∧ LW w ad13 kk kd13 ln13 G13 (va_up P13 23 z) U13 V13 X13 O13 := ⟨_, _, rfl, hP2, hD2, hW.setP hD hi7 (by rw [hk5_this]; decide) 23 (some cnt6) (by rw [hk5_this]; rfl)⟩
  replace hT : TYP kd13 (va_up P13 23 m15) O13 (V13 0) cnt13 := by rw [em15]; exact hT.setP 23 this cnt6 hk_n13
  replace hr := vlS hr m15 em15
  clear em15
  refine lv_aload_n hx hb dX1_init_18 rfl (lv_at hl 0 rfl) ?_
  refine lv_iconst (v := 0) hx hb dX1_init_19 (by decide +kernel) ?_
  obtain ⟨i9, hi9⟩ := hW.o1 hk5_this
  refine va_put (D := (dC, dI)) (ci := 1) (v := .int 0) (ty := .boolean) (C := RX1) (T := TX1) (N := 6) hx hb hts inX1 tyX1 tyX1_ok nmX1 hown hK hP hD hS i9 hi9 rfl 4 (by decide) (hts (.fieldLink RX1 16 "SpellTurner$Law" "atStart" "Z") ic_189) (fun _ h9 => h9) rfl (by decide +kernel) rfl rfl (Nat.le_of_ble_eq_true rfl) dX1_init_20 (fun H locs hP2 hD2 hS => ?_)
  obtain ⟨m20, w10, em20, hP, hD, hW⟩ : ∃ (z : Nat → Int32) (w : va_W), z = (va_up (G13 24) this 0) ∧ va_P (dC, dI) vwCl w H ∧ va_D A w ∧ LW w ad13 kk kd13 ln13 (va_up G13 24 z) (va_up P13 23 m15) U13 V13 X13 O13 := ⟨_, _, rfl, hP2, hD2, hW.setG hD hi9 (by rw [hk5_this]; decide) 24 0 (by rw [hk5_this]; rfl)⟩
  replace hr := vlS hr m20 em20
  clear em20
  refine lv_aload_n hx hb dX1_init_23 rfl (lv_at hl 0 rfl) ?_
  refine lv_iconst (v := 0) hx hb dX1_init_24 (by decide +kernel) ?_
  obtain ⟨i11, hi11⟩ := hW.o1 hk5_this
  refine va_put (D := (dC, dI)) (ci := 1) (v := .int 0) (ty := .boolean) (C := RX1) (T := TX1) (N := 6) hx hb hts inX1 tyX1 tyX1_ok nmX1 hown hK hP hD hS i11 hi11 rfl 5 (by decide) (hts (.fieldLink RX1 20 "SpellTurner$Law" "atEnd" "Z") ic_190) (fun _ h9 => h9) rfl (by decide +kernel) rfl rfl (Nat.le_of_ble_eq_true rfl) dX1_init_25 (fun H locs hP2 hD2 hS => ?_)
  obtain ⟨m25, w12, em25, hP, hD, hW⟩ : ∃ (z : Nat → Int32) (w : va_W), z = (va_up (G13 25) this 0) ∧ va_P (dC, dI) vwCl w H ∧ va_D A w ∧ LW w ad13 kk kd13 ln13 (va_up (va_up G13 24 m20) 25 z) (va_up P13 23 m15) U13 V13 X13 O13 := ⟨_, _, rfl, hP2, hD2, hW.setG hD hi11 (by rw [hk5_this]; decide) 25 0 (by rw [hk5_this]; rfl)⟩
  replace hr := vlS hr m25 em25
  clear em25
  refine lv_aload_n hx hb dX1_init_28 rfl (lv_at hl 0 rfl) ?_
  refine lv_aload_n hx hb dX1_init_29 rfl (lv_at hl 1 rfl) ?_
  obtain ⟨i13, hi13⟩ := hW.o1 hk5_this
  refine va_putF (D := (dC, dI)) (ci := 1) (v := .ref (ad13 p0)) (ty := (.array .byte)) (C := RX1) (T := TX1) (N := 6) hx hb hts inX1 tyX1 tyX1_ok nmX1 hown hK hP hD hS i13 hi13 rfl 0 (by decide) (hts (.fieldLink RX1 23 "SpellTurner$Law" "first" "[B") ic_188) (fun _ h9 => h9) rfl hin rfl (by decide +kernel) rfl rfl (Nat.le_of_ble_eq_true rfl) dX1_init_30 (fun H locs hP2 hD2 hS => ?_)
  obtain ⟨m30, w14, em30, hP, hD, hW⟩ : ∃ (z : Nat → Option Nat) (w : va_W), z = (va_up (P13 20) this (some p0)) ∧ va_P (dC, dI) vwCl w H ∧ va_D A w ∧ LW w ad13 kk kd13 ln13 (va_up (va_up G13 24 m20) 25 m25) (va_up (va_up P13 23 m15) 20 z) U13 V13 X13 O13 := ⟨_, _, rfl, hP2, hD2, hW.setP hD hi13 (by rw [hk5_this]; decide) 20 (some p0) (by rw [hk5_this]; rfl)⟩
  replace hT : TYP kd13 (va_up (va_up P13 23 m15) 20 m30) O13 (V13 0) cnt13 := by rw [em30]; exact hT.setP 20 this p0 hk5_p0
  replace hr := vlS hr m30 em30
  clear em30
  refine lv_aload_n hx hb dX1_init_33 rfl (lv_at hl 0 rfl) ?_
  refine lv_aload_n hx hb dX1_init_34 rfl (lv_at hl 2 rfl) ?_
  obtain ⟨i15, hi15⟩ := hW.o1 hk5_this
  refine va_putF (D := (dC, dI)) (ci := 1) (v := .ref (ad13 p1)) (ty := (.array .byte)) (C := RX1) (T := TX1) (N := 6) hx hb hts inX1 tyX1 tyX1_ok nmX1 hown hK hP hD hS i15 hi15 rfl 1 (by decide) (hts (.fieldLink RX1 26 "SpellTurner$Law" "second" "[B") ic_500) (fun _ h9 => h9) rfl hin rfl (by decide +kernel) rfl rfl (Nat.le_of_ble_eq_true rfl) dX1_init_35 (fun H locs hP2 hD2 hS => ?_)
  obtain ⟨m35, w16, em35, hP, hD, hW⟩ : ∃ (z : Nat → Option Nat) (w : va_W), z = (va_up (P13 21) this (some p1)) ∧ va_P (dC, dI) vwCl w H ∧ va_D A w ∧ LW w ad13 kk kd13 ln13 (va_up (va_up G13 24 m20) 25 m25) (va_up (va_up (va_up P13 23 m15) 20 m30) 21 z) U13 V13 X13 O13 := ⟨_, _, rfl, hP2, hD2, hW.setP hD hi15 (by rw [hk5_this]; decide) 21 (some p1) (by rw [hk5_this]; rfl)⟩
  replace hT : TYP kd13 (va_up (va_up (va_up P13 23 m15) 20 m30) 21 m35) O13 (V13 0) cnt13 := by rw [em35]; exact hT.setP 21 this p1 hk5_p1
  replace hr := vlS hr m35 em35
  clear em35
  replace hr := retS hr
  obtain ⟨hr, hv1, hv2⟩ := hr
  refine W.widen (k := uc) (n := us) (by omega) (by omega) ?_
  exact K 38 ls _ _ _ _ _ _ _ _ _ ad13 w16 H _ hr dX1_init_38 hE hW hT hP hD hS
set_option maxHeartbeats 4000000 in
set_option maxRecDepth 100000 in
theorem m_X1_init (l : Launch) (dC : Nat → ClassId) (dI : Nat → Nat → Nat) (kk : Nat → ClassId) (ad : Nat → Nat) (sz : Nat) (ws : va_W) (G : Nat → Nat → Int32) (P : Nat → Nat → Option Nat) (U : Nat → Nat → Int64) (V : Nat → Nat → Nat → Int32) (X : Nat → Nat → Nat → Int64) (O : Nat → Nat → Nat → Option Nat) (kd : Nat → Nat) (ln : Nat → Nat) (cnt : Nat) (this : Nat) (p0 : Nat) (p1 : Nat) (hk_this : kd this = 2) (hk_p0 : kd p0 = 100) (hk_p1 : kd p1 = 100) (hW : LW ws ad kk kd ln G P U V X O) (hT : TYP kd P O (V 0) cnt) (c_G : Nat → Nat → Int32) (c_P : Nat → Nat → Option Nat) (c_U : Nat → Nat → Int64) (c_V : Nat → Nat → Nat → Int32) (c_X : Nat → Nat → Nat → Int64) (c_O : Nat → Nat → Nat → Option Nat) (c_kd : Nat → Nat) (c_ln : Nat → Nat) (c_cnt : Nat) (uc us : Nat) (hr : f_X1_init G P U V X O kd ln cnt this p0 p1 = some ((c_G, c_P, c_U, c_V, c_X, c_O, c_kd, c_ln, c_cnt), uc, us)) : Met l yX1_init vmX1_init ({ frames := 3, cells := uc, slots := us, locals := 90 } : Room) (va_Pc [.ref (ad this), .ref (ad p0), .ref (ad p1)] (fun U => U.heap.size = sz ∧ va_P (dC, dI) vwCl ws U.heap ∧ va_K (dC, dI) vwCl (cT kk) U ∧ va_D (fun _ => True) ws)) (va_Qv (fun (x : (va_W × (Nat → Nat))) => LW x.1 x.2 kk c_kd c_ln c_G c_P c_U c_V c_X c_O ∧ TYP c_kd c_P c_O (c_V 0) c_cnt ∧ adEx kd ad c_kd x.2) (fun x t => va_P (dC, dI) vwCl x.1 t.heap ∧ va_K (dC, dI) vwCl (cT kk) t ∧ va_D (va_A ws sz) x.1) (va_A ws sz)) uc us (va_A ws sz) := by
  refine Met.ofW (cc := cX1_init) (maxL := 3) (ret := none) (by decide) rfl ?_
  intro p e s m args below meth c s₁ B hml hv
  obtain ⟨rfl, hsz, hP, hK, hD0⟩ := hv
  have hx := B.exec
  have hb := B.bytes
  have hrt := B.returns
  have hts := atoms_spec (ws := vmX1_init) B.pre
  have hown : s.vm.findClass RX1 = some m.cls := findClass_of_methodNamed B.named
  subst hsz
  have hD := hD0.self (sz := s.heap.size)
  generalize hAe : va_A ws s.heap.size = A at hD ⊢
  have hA : ∀ q : Nat, s.heap.size ≤ q → A q := fun q h => by rw [← hAe]; exact Or.inr h
  have hS : va_S A s.heap s.heap [] := va_S.rf
  have hl := lv_entry ([.ref (ad this), .ref (ad p0), .ref (ad p1)]) (n := 3) (Nat.le_of_ble_eq_true rfl)
  rw [lg_entry_eq]
  generalize (lg_sl ([.ref (ad this), .ref (ad p0), .ref (ad p1)]) ++ List.replicate (3 - (lg_sl ([.ref (ad this), .ref (ad p0), .ref (ad p1)])).length) Slot.unset).toArray = ls at hl ⊢
  have hin : meth.name = "<init>" := (name_of_methodNamed B.named B.method).1
  exact bm_X1_init this p0 p1 hk_this hk_p0 hk_p1 c_G c_P c_U c_V c_X c_O c_kd c_ln c_cnt uc us hr hx hb hml hown hts hin hA hK hW hT hP hD hS hl (fun pc ls c_Gz c_Pz c_Uz c_Vz c_Xz c_Oz c_kdz c_lnz c_cntz adz ws H locs he hd hE hW hT hP hD hS => by cases he; exact W.vret hx hb hrt (fun t ht hW9 => ⟨⟨(ws, adz), rfl, ⟨hW, hT, hE⟩, by rw [ht]; exact hP, va_K.moved hW9.alike hK, hD⟩, hS.F ht⟩) hS.2.2 hd)
set_option maxHeartbeats 4000000 in
set_option maxRecDepth 100000 in
theorem bm_X5_init {p : Program} {l : Launch} {e : Env} {s : State} {m : MethodId} {args : Array Value} {below : List Frame} {meth : Method} {c : Code} {Q : State → Prop} {A : Nat → Prop} {dC : Nat → ClassId} {dI : Nat → Nat → Nat} {kk : Nat → ClassId} {ad : Nat → Nat} {ws : va_W} {G : Nat → Nat → Int32} {P : Nat → Nat → Option Nat} {U : Nat → Nat → Int64} {V : Nat → Nat → Nat → Int32} {X : Nat → Nat → Nat → Int64} {O : Nat → Nat → Nat → Option Nat} {kd : Nat → Nat} {ln : Nat → Nat} {cnt : Nat} {H : Heap} {locs : List Loc} {ls : Array Slot} (this : Nat) (hk_this : kd this = 6) (c_G : Nat → Nat → Int32) (c_P : Nat → Nat → Option Nat) (c_U : Nat → Nat → Int64) (c_V : Nat → Nat → Nat → Int32) (c_X : Nat → Nat → Nat → Int64) (c_O : Nat → Nat → Nat → Option Nat) (c_kd : Nat → Nat) (c_ln : Nat → Nat) (c_cnt : Nat) (uc us : Nat) (hr : f_X5_init G P U V X O kd ln cnt this = some ((c_G, c_P, c_U, c_V, c_X, c_O, c_kd, c_ln, c_cnt), uc, us)) (hx : p.tables.exec = Jvm.exec) (hb : c.code = cX5_init) (hml : c.maxLocals = 1) (hown : s.vm.findClass RX5 = some m.cls) (hts : ∀ w ∈ vmX5_init, w.before args s = true) (hin : meth.name = "<init>") (hA : ∀ q : Nat, s.heap.size ≤ q → A q) (hK : va_K (dC, dI) vwCl (cT kk) s) (hEn : EnvOK s) (hW : LW ws ad kk kd ln G P U V X O) (hT : TYP kd P O (V 0) cnt) (hP : va_P (dC, dI) vwCl ws H) (hD : va_D A ws) (hS : va_S A s.heap H locs) (hl : lv_has ls 1 [(0, .ref (ad this))])
    (K : ∀ (pc : Nat) (ls : Array Slot) (c_Gz : Nat → Nat → Int32) (c_Pz : Nat → Nat → Option Nat) (c_Uz : Nat → Nat → Int64) (c_Vz : Nat → Nat → Nat → Int32) (c_Xz : Nat → Nat → Nat → Int64) (c_Oz : Nat → Nat → Nat → Option Nat) (c_kdz : Nat → Nat) (c_lnz : Nat → Nat) (c_cntz : Nat) (adz : Nat → Nat) (ws : va_W) (H : Heap) (locs : List Loc), some (c_Gz, c_Pz, c_Uz, c_Vz, c_Xz, c_Oz, c_kdz, c_lnz, c_cntz) = some (c_G, c_P, c_U, c_V, c_X, c_O, c_kd, c_ln, c_cnt) → decode cX5_init pc = .ok (.return_, 1) → adEx kd ad c_kdz adz → LW ws adz kk c_kdz c_lnz c_Gz c_Pz c_Uz c_Vz c_Xz c_Oz → TYP c_kdz c_Pz c_Oz (c_Vz 0) c_cntz → va_P (dC, dI) vwCl ws H → va_D A ws → va_S A s.heap H locs → W p l e ({ frames := 4, cells := uc, slots := us, locals := 112 } : Room) s m args below meth c H locs uc us Q (F0 m pc ls [])) : W p l e ({ frames := 4, cells := uc, slots := us, locals := 112 } : Room) s m args below meth c H locs 0 0 Q (F0 m 0 ls []) := by
  have hu1 : 0 + uc = uc := Nat.zero_add _
  have hu2 : 0 + us = us := Nat.zero_add _
  have hE : adEx kd ad kd ad := ⟨fun _ _ => rfl, fun _ _ => rfl⟩
  unfold f_X5_init at hr
  refine lv_aload_n hx hb dX5_init_0 rfl (lv_at hl 0 rfl) ?_
  refine W.objInit hx hb hown (hts (.methodLink RX5 3 objectInit) ic_502) (hts (.instanceMethod objectInit) ic_494) (hts (.code objectInit ⟨#[0xb1]⟩ 1 none) ic_495) rfl (by rw [hml]; exact hl.1) rfl dX5_init_1 (Nat.le_of_ble_eq_true rfl) (Nat.le_of_ble_eq_true rfl) ?_
  refine W.eq (g2 := F0 m 4 ls []) rfl ?_
  refine lv_aload_n hx hb dX5_init_4 rfl (lv_at hl 0 rfl) ?_
  refine lv_iconst (v := 0) hx hb dX5_init_5 (by decide +kernel) ?_
  obtain ⟨i1, hi1⟩ := hW.o5 hk_this
  refine va_put (D := (dC, dI)) (ci := 5) (v := .int 0) (ty := .int) (C := RX5) (T := TX5) (N := 11) hx hb hts inX5 tyX5 tyX5_ok nmX5 hown hK hP hD hS i1 hi1 rfl 0 (by decide) (hts (.fieldLink RX5 9 "SpellTurner$Reform" "day" "I") ic_265) (fun _ h9 => h9) rfl (by decide +kernel) rfl rfl (Nat.le_of_ble_eq_true rfl) dX5_init_6 (fun H locs hP2 hD2 hS => ?_)
  obtain ⟨m6, w2, em6, hP, hD, hW⟩ : ∃ (z : Nat → Int32) (w : va_W), z = (va_up (G 100) this 0) ∧ va_P (dC, dI) vwCl w H ∧ va_D A w ∧ LW w ad kk kd ln (va_up G 100 z) P U V X O := ⟨_, _, rfl, hP2, hD2, hW.setG hD hi1 (by rw [hk_this]; decide) 100 0 (by rw [hk_this]; rfl)⟩
  replace hr := vlS hr m6 em6
  clear em6
  refine lv_aload_n hx hb dX5_init_9 rfl (lv_at hl 0 rfl) ?_
  refine lv_bipush (v := 40) hx hb dX5_init_10 (by decide +kernel) ?_
  replace hr := iteS hr
  obtain ⟨hi12, hr⟩ := hr
  replace hr := tkS hr
  obtain ⟨zw1, zw2, hr, hq1, hq2⟩ := hr
  refine va_newq (C := RX1) (N' := (Int32.toNatClampNeg 40)) hx hb hown (hts (.classLink RX5 15 RX1) ic_503) (en_aoRX1 hEn) hK hP hD hS hA (nabS hi12).1 rfl (nabB hi12 (by decide)) (by show _ ≤ uc; omega) (by show _ ≤ us; omega) dX5_init_12 (fun q12 cA H hK2 hP2 hD2 hS => ?_)
  obtain rfl : cA = kk 4 := kA_RX1 hK2
  clear hK2
  replace hr := newcS hr hW hT hD2 (by decide) (fun _ => rfl)
  obtain ⟨G12, P12, U12, V12, X12, O12, kd12, ln12, cnt12, ad12, hr, hW, hT, hE2, hk_n12, hqa⟩ := hr
  subst hqa
  obtain ⟨w3, hP, hD, hW⟩ : ∃ w : va_W, va_P (dC, dI) vwCl w H ∧ va_D A w ∧ LW w ad12 kk kd12 ln12 G12 P12 U12 V12 X12 O12 := ⟨_, hP2, hD2, hW⟩
  clear hP2 hD2
  have ea_this : ad this = ad12 this := (hE2.1 this (by rw [hk_this]; decide)).symm
  have hk3_this := (hE2.2 this (by rw [hk_this]; decide)).trans hk_this
  rw [ea_this] at hl
  rw [ea_this]
  clear ea_this
  replace hE := adE hE hE2
  clear hE2
  obtain ⟨ccn4, eccn4⟩ : ∃ y : Nat, y = (0 + 1) := ⟨_, rfl⟩
  obtain ⟨csn4, ecsn4⟩ : ∃ y : Nat, y = (0 + (Int32.toNatClampNeg 40)) := ⟨_, rfl⟩
  refine W.widen (k := ccn4) (n := csn4) (Nat.le_of_eq eccn4.symm) (Nat.le_of_eq ecsn4.symm) ?_
  replace hu1 : ccn4 + zw1 = uc := by omega
  replace hu2 : csn4 + zw2 = us := by omega
  clear eccn4 ecsn4
  obtain ⟨i5, hi5⟩ := hW.o5 hk3_this
  refine va_putF (D := (dC, dI)) (ci := 5) (v := .ref (ad12 cnt)) (ty := (.array (.object "SpellTurner$Law"))) (C := RX5) (T := TX5) (N := 11) hx hb hts inX5 tyX5 tyX5_ok nmX5 hown hK hP hD hS i5 hi5 rfl 1 (by decide) (hts (.fieldLink RX5 17 "SpellTurner$Reform" "laws" "[LSpellTurner$Law;") ic_251) (fun _ h9 => h9) rfl hin rfl (by decide +kernel) rfl rfl (Nat.le_of_ble_eq_true rfl) dX5_init_15 (fun H locs hP2 hD2 hS => ?_)
  obtain ⟨m15, w6, em15, hP, hD, hW⟩ : ∃ (z : Nat → Option Nat) (w : va_W), z = (va_up (P12 101) this (some cnt)) ∧ va_P (dC, dI) vwCl w H ∧ va_D A w ∧ LW w ad12 kk kd12 ln12 G12 (va_up P12 101 z) U12 V12 X12 O12 := ⟨_, _, rfl, hP2, hD2, hW.setP hD hi5 (by rw [hk3_this]; decide) 101 (some cnt) (by rw [hk3_this]; rfl)⟩
  replace hT : TYP kd12 (va_up P12 101 m15) O12 (V12 0) cnt12 := by rw [em15]; exact hT.setP 101 this cnt hk_n12
  replace hr := vlS hr m15 em15
  clear em15
  refine lv_aload_n hx hb dX5_init_18 rfl (lv_at hl 0 rfl) ?_
  refine lv_iconst (v := 0) hx hb dX5_init_19 (by decide +kernel) ?_
  obtain ⟨i7, hi7⟩ := hW.o5 hk3_this
  refine va_put (D := (dC, dI)) (ci := 5) (v := .int 0) (ty := .int) (C := RX5) (T := TX5) (N := 11) hx hb hts inX5 tyX5 tyX5_ok nmX5 hown hK hP hD hS i7 hi7 rfl 2 (by decide) (hts (.fieldLink RX5 21 "SpellTurner$Reform" "lawCount" "I") ic_250) (fun _ h9 => h9) rfl (by decide +kernel) rfl rfl (Nat.le_of_ble_eq_true rfl) dX5_init_20 (fun H locs hP2 hD2 hS => ?_)
  obtain ⟨m20, w8, em20, hP, hD, hW⟩ : ∃ (z : Nat → Int32) (w : va_W), z = (va_up (G12 102) this 0) ∧ va_P (dC, dI) vwCl w H ∧ va_D A w ∧ LW w ad12 kk kd12 ln12 (va_up G12 102 z) (va_up P12 101 m15) U12 V12 X12 O12 := ⟨_, _, rfl, hP2, hD2, hW.setG hD hi7 (by rw [hk3_this]; decide) 102 0 (by rw [hk3_this]; rfl)⟩
  replace hr := vlS hr m20 em20
  clear em20
  refine lv_aload_n hx hb dX5_init_23 rfl (lv_at hl 0 rfl) ?_
  replace hr := tkS hr
  obtain ⟨zw1, zw2, hr, hq1, hq2⟩ := hr
  refine va_new (ci := 10) (fs := [.int 0, .null, .null, .int 0]) (C := RX10) (T := TX10) (N := 4) hx hb hts inX10 tyX10 tyX10_ok hown (hts (.classLink RX5 24 RX10) ic_504) (hts (.instantiable RX10 4) ic_505) (hts (.initialized RX10) ic_12) hK hP hD hS hA rfl (fun j hj => match j, hj with | 0, _ => rfl | 1, _ => rfl | 2, _ => rfl | 3, _ => rfl | j + 4, hj => absurd hj (by omega)) (by show _ ≤ uc; omega) (by show _ ≤ us; omega) dX5_init_24 (fun q24 H hP2 hD2 hS => ?_)
  replace hr := newcS hr hW hT hD2 (by decide) (fun _ => rfl)
  obtain ⟨G24, P24, U24, V24, X24, O24, kd24, ln24, cnt24, ad24, hr, hW, hT, hE2, hk_n24, hqa⟩ := hr
  subst hqa
  obtain ⟨w9, hP, hD, hW⟩ : ∃ w : va_W, va_P (dC, dI) vwCl w H ∧ va_D A w ∧ LW w ad24 kk kd24 ln24 G24 P24 U24 V24 X24 O24 := ⟨_, hP2, hD2, hW⟩
  clear hP2 hD2
  have ea_this : ad12 this = ad24 this := (hE2.1 this (by rw [hk3_this]; decide)).symm
  have hk9_this := (hE2.2 this (by rw [hk3_this]; decide)).trans hk3_this
  rw [ea_this] at hl
  rw [ea_this]
  clear ea_this
  replace hE := adE hE hE2
  clear hE2
  obtain ⟨ccn10, eccn10⟩ : ∃ y : Nat, y = (ccn4 + 1) := ⟨_, rfl⟩
  obtain ⟨csn10, ecsn10⟩ : ∃ y : Nat, y = (csn4 + 4) := ⟨_, rfl⟩
  refine W.widen (k := ccn10) (n := csn10) (Nat.le_of_eq eccn10.symm) (Nat.le_of_eq ecsn10.symm) ?_
  replace hu1 : ccn10 + zw1 = uc := by omega
  replace hu2 : csn10 + zw2 = us := by omega
  clear eccn10 ecsn10
  refine lv_dup hx hb dX5_init_27 rfl ?_
  refine lv_bipush (v := 40) hx hb dX5_init_28 (by decide +kernel) ?_
  refine lv_bipush (v := 16) hx hb dX5_init_30 (by decide +kernel) ?_
  replace hr := bA9S hr
  obtain ⟨c32_G, c32_P, c32_U, c32_V, c32_X, c32_O, c32_kd, c32_ln, c32_cnt, zv1, zv2, zw1, zw2, hc32, hr, hq1, hq2⟩ := hr
  have hFc := fr_all hD hS hA
  refine va_callv (va_runI (As := [.int 40, .int 16]) (rest := [.ref (ad24 cnt12), .ref (ad24 this)]) ⟨hx, hb, hml, hown, hts⟩ (m_X10_init l dC dI kk ad24 H.size w9 G24 P24 U24 V24 X24 O24 kd24 ln24 cnt24 cnt12 40 16 hk_n24 hW hT c32_G c32_P c32_U c32_V c32_X c32_O c32_kd c32_ln c32_cnt zv1 zv2 hc32) (cwI 2 hts (lwC_code ic_492) rfl rfl rfl (hts (.initialized RX10) ic_12) (hts (.methodLink RX5 26 yX10_init) ic_506) (hts (.instanceMethod yX10_init) ic_507) rfl (by decide +kernel) ⟨Nat.le_of_ble_eq_true rfl, Nat.le_of_ble_eq_true rfl⟩) ⟨fun a U g mk q => by obtain ⟨q0, q1, qP, qK, qD⟩ := q; exact ⟨q0, q1, qP, va_K.moved (u := U) (U := U.calling g mk a) (Vm.Alike.refl U.vm) qK, qD⟩, fun U hU hW => ⟨rfl, by rw [hU], by rw [hU]; exact hP, va_K.moved hW.alike hK, hD.weaken (fun _ _ _ _ => trivial)⟩⟩ rfl rfl hl.1 rfl (lv_room (Nat.le_of_ble_eq_true rfl)) dX5_init_32 ⟨(by show _ ≤ uc; omega), (by show _ ≤ us; omega)⟩) hS (fun q _ h => hFc q h) hFc (fun w11 t H1 locs ht hvm hw hB hz1 hk1 hS => ?_)
  obtain ⟨w11, ad32_11⟩ := w11
  dsimp only at hw hB
  obtain ⟨hW, hT, hE2⟩ := hw
  obtain ⟨hP1, hK1, hD1⟩ := hB
  rw [ht] at hP1
  obtain ⟨hP, hD⟩ := jn_all (w1 := w11) hFc hP1 hD1
  replace hP : va_P (dC, dI) vwCl w11 H1 := hP
  replace hD : va_D A w11 := hD
  clear hFc hP1 hK1 hD1 hk1 hz1 ht hvm
  generalize H1 = H at hP hS ⊢
  have ea_this : ad24 this = ad32_11 this := (hE2.1 this (by rw [hk9_this]; decide)).symm
  have hk11_this := (hE2.2 this (by rw [hk9_this]; decide)).trans hk9_this
  have ea_cnt12 : ad24 cnt12 = ad32_11 cnt12 := (hE2.1 cnt12 (by rw [hk_n24]; decide)).symm
  have hk11_cnt12 := (hE2.2 cnt12 (by rw [hk_n24]; decide)).trans hk_n24
  rw [ea_this] at hl
  rw [ea_this, ea_cnt12]
  clear ea_this ea_cnt12
  replace hE := adE hE hE2
  clear hE2
  obtain ⟨ccn12, eccn12⟩ : ∃ y : Nat, y = (ccn10 + zv1) := ⟨_, rfl⟩
  obtain ⟨csn12, ecsn12⟩ : ∃ y : Nat, y = (csn10 + zv2) := ⟨_, rfl⟩
  refine W.widen (k := ccn12) (n := csn12) (Nat.le_of_eq eccn12.symm) (Nat.le_of_eq ecsn12.symm) ?_
  replace hu1 : ccn12 + zw1 = uc := by omega
  replace hu2 : csn12 + zw2 = us := by omega
  clear eccn12 ecsn12
  obtain ⟨i13, hi13⟩ := hW.o5 hk11_this
  refine va_putF (D := (dC, dI)) (ci := 5) (v := .ref (ad32_11 cnt12)) (ty := (.object "SpellTurner$WordRow")) (C := RX5) (T := TX5) (N := 11) hx hb hts inX5 tyX5 tyX5_ok nmX5 hown hK hP hD hS i13 hi13 rfl 3 (by decide) (hts (.fieldLink RX5 29 "SpellTurner$Reform" "parts" "LSpellTurner$WordRow;") ic_266) (fun _ h9 => h9) rfl hin rfl (by decide +kernel) rfl rfl (Nat.le_of_ble_eq_true rfl) dX5_init_35 (fun H locs hP2 hD2 hS => ?_)
  obtain ⟨m35, w14, em35, hP, hD, hW⟩ : ∃ (z : Nat → Option Nat) (w : va_W), z = (va_up (c32_P 103) this (some cnt12)) ∧ va_P (dC, dI) vwCl w H ∧ va_D A w ∧ LW w ad32_11 kk c32_kd c32_ln c32_G (va_up c32_P 103 z) c32_U c32_V c32_X c32_O := ⟨_, _, rfl, hP2, hD2, hW.setP hD hi13 (by rw [hk11_this]; decide) 103 (some cnt12) (by rw [hk11_this]; rfl)⟩
  replace hT : TYP c32_kd (va_up c32_P 103 m35) c32_O (c32_V 0) c32_cnt := by rw [em35]; exact hT.setP 103 this cnt12 hk11_cnt12
  replace hr := vlS hr m35 em35
  clear em35
  refine lv_aload_n hx hb dX5_init_38 rfl (lv_at hl 0 rfl) ?_
  replace hr := tkS hr
  obtain ⟨zw1, zw2, hr, hq1, hq2⟩ := hr
  refine va_new (ci := 10) (fs := [.int 0, .null, .null, .int 0]) (C := RX10) (T := TX10) (N := 4) hx hb hts inX10 tyX10 tyX10_ok hown (hts (.classLink RX5 24 RX10) ic_504) (hts (.instantiable RX10 4) ic_505) (hts (.initialized RX10) ic_12) hK hP hD hS hA rfl (fun j hj => match j, hj with | 0, _ => rfl | 1, _ => rfl | 2, _ => rfl | 3, _ => rfl | j + 4, hj => absurd hj (by omega)) (by show _ ≤ uc; omega) (by show _ ≤ us; omega) dX5_init_39 (fun q39 H hP2 hD2 hS => ?_)
  replace hr := newcS hr hW hT hD2 (by decide) (fun _ => rfl)
  obtain ⟨G39, P39, U39, V39, X39, O39, kd39, ln39, cnt39, ad39, hr, hW, hT, hE2, hk_n39, hqa⟩ := hr
  subst hqa
  obtain ⟨w15, hP, hD, hW⟩ : ∃ w : va_W, va_P (dC, dI) vwCl w H ∧ va_D A w ∧ LW w ad39 kk kd39 ln39 G39 P39 U39 V39 X39 O39 := ⟨_, hP2, hD2, hW⟩
  clear hP2 hD2
  have ea_this : ad32_11 this = ad39 this := (hE2.1 this (by rw [hk11_this]; decide)).symm
  have hk15_this := (hE2.2 this (by rw [hk11_this]; decide)).trans hk11_this
  rw [ea_this] at hl
  rw [ea_this]
  clear ea_this
  replace hE := adE hE hE2
  clear hE2
  obtain ⟨ccn16, eccn16⟩ : ∃ y : Nat, y = (ccn12 + 1) := ⟨_, rfl⟩
  obtain ⟨csn16, ecsn16⟩ : ∃ y : Nat, y = (csn12 + 4) := ⟨_, rfl⟩
  refine W.widen (k := ccn16) (n := csn16) (Nat.le_of_eq eccn16.symm) (Nat.le_of_eq ecsn16.symm) ?_
  replace hu1 : ccn16 + zw1 = uc := by omega
  replace hu2 : csn16 + zw2 = us := by omega
  clear eccn16 ecsn16
  refine lv_dup hx hb dX5_init_42 rfl ?_
  refine lv_bipush (v := 40) hx hb dX5_init_43 (by decide +kernel) ?_
  refine lv_bipush (v := 16) hx hb dX5_init_45 (by decide +kernel) ?_
  replace hr := bA9S hr
  obtain ⟨c47_G, c47_P, c47_U, c47_V, c47_X, c47_O, c47_kd, c47_ln, c47_cnt, zv1, zv2, zw1, zw2, hc47, hr, hq1, hq2⟩ := hr
  have hFc := fr_all hD hS hA
  refine va_callv (va_runI (As := [.int 40, .int 16]) (rest := [.ref (ad39 c32_cnt), .ref (ad39 this)]) ⟨hx, hb, hml, hown, hts⟩ (m_X10_init l dC dI kk ad39 H.size w15 G39 P39 U39 V39 X39 O39 kd39 ln39 cnt39 c32_cnt 40 16 hk_n39 hW hT c47_G c47_P c47_U c47_V c47_X c47_O c47_kd c47_ln c47_cnt zv1 zv2 hc47) (cwI 2 hts (lwC_code ic_492) rfl rfl rfl (hts (.initialized RX10) ic_12) (hts (.methodLink RX5 26 yX10_init) ic_506) (hts (.instanceMethod yX10_init) ic_507) rfl (by decide +kernel) ⟨Nat.le_of_ble_eq_true rfl, Nat.le_of_ble_eq_true rfl⟩) ⟨fun a U g mk q => by obtain ⟨q0, q1, qP, qK, qD⟩ := q; exact ⟨q0, q1, qP, va_K.moved (u := U) (U := U.calling g mk a) (Vm.Alike.refl U.vm) qK, qD⟩, fun U hU hW => ⟨rfl, by rw [hU], by rw [hU]; exact hP, va_K.moved hW.alike hK, hD.weaken (fun _ _ _ _ => trivial)⟩⟩ rfl rfl hl.1 rfl (lv_room (Nat.le_of_ble_eq_true rfl)) dX5_init_47 ⟨(by show _ ≤ uc; omega), (by show _ ≤ us; omega)⟩) hS (fun q _ h => hFc q h) hFc (fun w17 t H1 locs ht hvm hw hB hz1 hk1 hS => ?_)
  obtain ⟨w17, ad47_17⟩ := w17
  dsimp only at hw hB
  obtain ⟨hW, hT, hE2⟩ := hw
  obtain ⟨hP1, hK1, hD1⟩ := hB
  rw [ht] at hP1
  obtain ⟨hP, hD⟩ := jn_all (w1 := w17) hFc hP1 hD1
  replace hP : va_P (dC, dI) vwCl w17 H1 := hP
  replace hD : va_D A w17 := hD
  clear hFc hP1 hK1 hD1 hk1 hz1 ht hvm
  generalize H1 = H at hP hS ⊢
  have ea_this : ad39 this = ad47_17 this := (hE2.1 this (by rw [hk15_this]; decide)).symm
  have hk17_this := (hE2.2 this (by rw [hk15_this]; decide)).trans hk15_this
  have ea_c32_cnt : ad39 c32_cnt = ad47_17 c32_cnt := (hE2.1 c32_cnt (by rw [hk_n39]; decide)).symm
  have hk17_c32_cnt := (hE2.2 c32_cnt (by rw [hk_n39]; decide)).trans hk_n39
  rw [ea_this] at hl
  rw [ea_this, ea_c32_cnt]
  clear ea_this ea_c32_cnt
  replace hE := adE hE hE2
  clear hE2
  obtain ⟨ccn18, eccn18⟩ : ∃ y : Nat, y = (ccn16 + zv1) := ⟨_, rfl⟩
  obtain ⟨csn18, ecsn18⟩ : ∃ y : Nat, y = (csn16 + zv2) := ⟨_, rfl⟩
  refine W.widen (k := ccn18) (n := csn18) (Nat.le_of_eq eccn18.symm) (Nat.le_of_eq ecsn18.symm) ?_
  replace hu1 : ccn18 + zw1 = uc := by omega
  replace hu2 : csn18 + zw2 = us := by omega
  clear eccn18 ecsn18
  obtain ⟨i19, hi19⟩ := hW.o5 hk17_this
  refine va_putF (D := (dC, dI)) (ci := 5) (v := .ref (ad47_17 c32_cnt)) (ty := (.object "SpellTurner$WordRow")) (C := RX5) (T := TX5) (N := 11) hx hb hts inX5 tyX5 tyX5_ok nmX5 hown hK hP hD hS i19 hi19 rfl 4 (by decide) (hts (.fieldLink RX5 33 "SpellTurner$Reform" "entries" "LSpellTurner$WordRow;") ic_253) (fun _ h9 => h9) rfl hin rfl (by decide +kernel) rfl rfl (Nat.le_of_ble_eq_true rfl) dX5_init_50 (fun H locs hP2 hD2 hS => ?_)
  obtain ⟨m50, w20, em50, hP, hD, hW⟩ : ∃ (z : Nat → Option Nat) (w : va_W), z = (va_up (c47_P 104) this (some c32_cnt)) ∧ va_P (dC, dI) vwCl w H ∧ va_D A w ∧ LW w ad47_17 kk c47_kd c47_ln c47_G (va_up c47_P 104 z) c47_U c47_V c47_X c47_O := ⟨_, _, rfl, hP2, hD2, hW.setP hD hi19 (by rw [hk17_this]; decide) 104 (some c32_cnt) (by rw [hk17_this]; rfl)⟩
  replace hT : TYP c47_kd (va_up c47_P 104 m50) c47_O (c47_V 0) c47_cnt := by rw [em50]; exact hT.setP 104 this c32_cnt hk17_c32_cnt
  replace hr := vlS hr m50 em50
  clear em50
  refine lv_aload_n hx hb dX5_init_53 rfl (lv_at hl 0 rfl) ?_
  replace hr := tkS hr
  obtain ⟨zw1, zw2, hr, hq1, hq2⟩ := hr
  refine va_new (ci := 10) (fs := [.int 0, .null, .null, .int 0]) (C := RX10) (T := TX10) (N := 4) hx hb hts inX10 tyX10 tyX10_ok hown (hts (.classLink RX5 24 RX10) ic_504) (hts (.instantiable RX10 4) ic_505) (hts (.initialized RX10) ic_12) hK hP hD hS hA rfl (fun j hj => match j, hj with | 0, _ => rfl | 1, _ => rfl | 2, _ => rfl | 3, _ => rfl | j + 4, hj => absurd hj (by omega)) (by show _ ≤ uc; omega) (by show _ ≤ us; omega) dX5_init_54 (fun q54 H hP2 hD2 hS => ?_)
  replace hr := newcS hr hW hT hD2 (by decide) (fun _ => rfl)
  obtain ⟨G54, P54, U54, V54, X54, O54, kd54, ln54, cnt54, ad54, hr, hW, hT, hE2, hk_n54, hqa⟩ := hr
  subst hqa
  obtain ⟨w21, hP, hD, hW⟩ : ∃ w : va_W, va_P (dC, dI) vwCl w H ∧ va_D A w ∧ LW w ad54 kk kd54 ln54 G54 P54 U54 V54 X54 O54 := ⟨_, hP2, hD2, hW⟩
  clear hP2 hD2
  have ea_this : ad47_17 this = ad54 this := (hE2.1 this (by rw [hk17_this]; decide)).symm
  have hk21_this := (hE2.2 this (by rw [hk17_this]; decide)).trans hk17_this
  rw [ea_this] at hl
  rw [ea_this]
  clear ea_this
  replace hE := adE hE hE2
  clear hE2
  obtain ⟨ccn22, eccn22⟩ : ∃ y : Nat, y = (ccn18 + 1) := ⟨_, rfl⟩
  obtain ⟨csn22, ecsn22⟩ : ∃ y : Nat, y = (csn18 + 4) := ⟨_, rfl⟩
  refine W.widen (k := ccn22) (n := csn22) (Nat.le_of_eq eccn22.symm) (Nat.le_of_eq ecsn22.symm) ?_
  replace hu1 : ccn22 + zw1 = uc := by omega
  replace hu2 : csn22 + zw2 = us := by omega
  clear eccn22 ecsn22
  refine lv_dup hx hb dX5_init_57 rfl ?_
  refine lv_bipush (v := 40) hx hb dX5_init_58 (by decide +kernel) ?_
  refine lv_bipush (v := 16) hx hb dX5_init_60 (by decide +kernel) ?_
  replace hr := bA9S hr
  obtain ⟨c62_G, c62_P, c62_U, c62_V, c62_X, c62_O, c62_kd, c62_ln, c62_cnt, zv1, zv2, zw1, zw2, hc62, hr, hq1, hq2⟩ := hr
  have hFc := fr_all hD hS hA
  refine va_callv (va_runI (As := [.int 40, .int 16]) (rest := [.ref (ad54 c47_cnt), .ref (ad54 this)]) ⟨hx, hb, hml, hown, hts⟩ (m_X10_init l dC dI kk ad54 H.size w21 G54 P54 U54 V54 X54 O54 kd54 ln54 cnt54 c47_cnt 40 16 hk_n54 hW hT c62_G c62_P c62_U c62_V c62_X c62_O c62_kd c62_ln c62_cnt zv1 zv2 hc62) (cwI 2 hts (lwC_code ic_492) rfl rfl rfl (hts (.initialized RX10) ic_12) (hts (.methodLink RX5 26 yX10_init) ic_506) (hts (.instanceMethod yX10_init) ic_507) rfl (by decide +kernel) ⟨Nat.le_of_ble_eq_true rfl, Nat.le_of_ble_eq_true rfl⟩) ⟨fun a U g mk q => by obtain ⟨q0, q1, qP, qK, qD⟩ := q; exact ⟨q0, q1, qP, va_K.moved (u := U) (U := U.calling g mk a) (Vm.Alike.refl U.vm) qK, qD⟩, fun U hU hW => ⟨rfl, by rw [hU], by rw [hU]; exact hP, va_K.moved hW.alike hK, hD.weaken (fun _ _ _ _ => trivial)⟩⟩ rfl rfl hl.1 rfl (lv_room (Nat.le_of_ble_eq_true rfl)) dX5_init_62 ⟨(by show _ ≤ uc; omega), (by show _ ≤ us; omega)⟩) hS (fun q _ h => hFc q h) hFc (fun w23 t H1 locs ht hvm hw hB hz1 hk1 hS => ?_)
  obtain ⟨w23, ad62_23⟩ := w23
  dsimp only at hw hB
  obtain ⟨hW, hT, hE2⟩ := hw
  obtain ⟨hP1, hK1, hD1⟩ := hB
  rw [ht] at hP1
  obtain ⟨hP, hD⟩ := jn_all (w1 := w23) hFc hP1 hD1
  replace hP : va_P (dC, dI) vwCl w23 H1 := hP
  replace hD : va_D A w23 := hD
  clear hFc hP1 hK1 hD1 hk1 hz1 ht hvm
  generalize H1 = H at hP hS ⊢
  have ea_this : ad54 this = ad62_23 this := (hE2.1 this (by rw [hk21_this]; decide)).symm
  have hk23_this := (hE2.2 this (by rw [hk21_this]; decide)).trans hk21_this
  have ea_c47_cnt : ad54 c47_cnt = ad62_23 c47_cnt := (hE2.1 c47_cnt (by rw [hk_n54]; decide)).symm
  have hk23_c47_cnt := (hE2.2 c47_cnt (by rw [hk_n54]; decide)).trans hk_n54
  rw [ea_this] at hl
  rw [ea_this, ea_c47_cnt]
  clear ea_this ea_c47_cnt
  replace hE := adE hE hE2
  clear hE2
  obtain ⟨ccn24, eccn24⟩ : ∃ y : Nat, y = (ccn22 + zv1) := ⟨_, rfl⟩
  obtain ⟨csn24, ecsn24⟩ : ∃ y : Nat, y = (csn22 + zv2) := ⟨_, rfl⟩
  refine W.widen (k := ccn24) (n := csn24) (Nat.le_of_eq eccn24.symm) (Nat.le_of_eq ecsn24.symm) ?_
  replace hu1 : ccn24 + zw1 = uc := by omega
  replace hu2 : csn24 + zw2 = us := by omega
  clear eccn24 ecsn24
  obtain ⟨i25, hi25⟩ := hW.o5 hk23_this
  refine va_putF (D := (dC, dI)) (ci := 5) (v := .ref (ad62_23 c47_cnt)) (ty := (.object "SpellTurner$WordRow")) (C := RX5) (T := TX5) (N := 11) hx hb hts inX5 tyX5 tyX5_ok nmX5 hown hK hP hD hS i25 hi25 rfl 5 (by decide) (hts (.fieldLink RX5 36 "SpellTurner$Reform" "becomes" "LSpellTurner$WordRow;") ic_262) (fun _ h9 => h9) rfl hin rfl (by decide +kernel) rfl rfl (Nat.le_of_ble_eq_true rfl) dX5_init_65 (fun H locs hP2 hD2 hS => ?_)
  obtain ⟨m65, w26, em65, hP, hD, hW⟩ : ∃ (z : Nat → Option Nat) (w : va_W), z = (va_up (c62_P 105) this (some c47_cnt)) ∧ va_P (dC, dI) vwCl w H ∧ va_D A w ∧ LW w ad62_23 kk c62_kd c62_ln c62_G (va_up c62_P 105 z) c62_U c62_V c62_X c62_O := ⟨_, _, rfl, hP2, hD2, hW.setP hD hi25 (by rw [hk23_this]; decide) 105 (some c47_cnt) (by rw [hk23_this]; rfl)⟩
  replace hT : TYP c62_kd (va_up c62_P 105 m65) c62_O (c62_V 0) c62_cnt := by rw [em65]; exact hT.setP 105 this c47_cnt hk23_c47_cnt
  replace hr := vlS hr m65 em65
  clear em65
  refine lv_aload_n hx hb dX5_init_68 rfl (lv_at hl 0 rfl) ?_
  refine lv_bipush (v := 40) hx hb dX5_init_69 (by decide +kernel) ?_
  replace hr := iteS hr
  obtain ⟨hi71, hr⟩ := hr
  replace hr := tkS hr
  obtain ⟨zw1, zw2, hr, hq1, hq2⟩ := hr
  refine va_newa (atype := .boolean) (a0 := ((Int32.toNatClampNeg 40), .inl (fun _ => 0))) (ty := .boolean) (N' := (Int32.toNatClampNeg 40)) hx hb (hts (.arrayClass .boolean) ic_508) rfl hK hP hD hS hA (fun _ => rfl) (nabS hi71).1 rfl (nabB hi71 (by decide)) (by show _ ≤ uc; omega) (by show _ ≤ us; omega) dX5_init_71 (fun q71 cA H hK2 hP2 hD2 hS => ?_)
  obtain rfl : cA = kk 2 := kA_boolean hK2
  clear hK2
  replace hr := newcS hr hW hT hD2 (by decide) (fun _ => rfl)
  obtain ⟨G71, P71, U71, V71, X71, O71, kd71, ln71, cnt71, ad71, hr, hW, hT, hE2, hk_n71, hqa⟩ := hr
  subst hqa
  obtain ⟨w27, hP, hD, hW⟩ : ∃ w : va_W, va_P (dC, dI) vwCl w H ∧ va_D A w ∧ LW w ad71 kk kd71 ln71 G71 P71 U71 V71 X71 O71 := ⟨_, hP2, hD2, hW⟩
  clear hP2 hD2
  have ea_this : ad62_23 this = ad71 this := (hE2.1 this (by rw [hk23_this]; decide)).symm
  have hk27_this := (hE2.2 this (by rw [hk23_this]; decide)).trans hk23_this
  rw [ea_this] at hl
  rw [ea_this]
  clear ea_this
  replace hE := adE hE hE2
  clear hE2
  obtain ⟨ccn28, eccn28⟩ : ∃ y : Nat, y = (ccn24 + 1) := ⟨_, rfl⟩
  obtain ⟨csn28, ecsn28⟩ : ∃ y : Nat, y = (csn24 + (Int32.toNatClampNeg 40)) := ⟨_, rfl⟩
  refine W.widen (k := ccn28) (n := csn28) (Nat.le_of_eq eccn28.symm) (Nat.le_of_eq ecsn28.symm) ?_
  replace hu1 : ccn28 + zw1 = uc := by omega
  replace hu2 : csn28 + zw2 = us := by omega
  clear eccn28 ecsn28
  obtain ⟨i29, hi29⟩ := hW.o5 hk27_this
  refine va_putF (D := (dC, dI)) (ci := 5) (v := .ref (ad71 c62_cnt)) (ty := (.array .boolean)) (C := RX5) (T := TX5) (N := 11) hx hb hts inX5 tyX5 tyX5_ok nmX5 hown hK hP hD hS i29 hi29 rfl 6 (by decide) (hts (.fieldLink RX5 39 "SpellTurner$Reform" "kept" "[Z") ic_240) (fun _ h9 => h9) rfl hin rfl (by decide +kernel) rfl rfl (Nat.le_of_ble_eq_true rfl) dX5_init_73 (fun H locs hP2 hD2 hS => ?_)
  obtain ⟨m73, w30, em73, hP, hD, hW⟩ : ∃ (z : Nat → Option Nat) (w : va_W), z = (va_up (P71 106) this (some c62_cnt)) ∧ va_P (dC, dI) vwCl w H ∧ va_D A w ∧ LW w ad71 kk kd71 ln71 G71 (va_up P71 106 z) U71 V71 X71 O71 := ⟨_, _, rfl, hP2, hD2, hW.setP hD hi29 (by rw [hk27_this]; decide) 106 (some c62_cnt) (by rw [hk27_this]; rfl)⟩
  replace hT : TYP kd71 (va_up P71 106 m73) O71 (V71 0) cnt71 := by rw [em73]; exact hT.setP 106 this c62_cnt hk_n71
  replace hr := vlS hr m73 em73
  clear em73
  refine lv_aload_n hx hb dX5_init_76 rfl (lv_at hl 0 rfl) ?_
  refine lv_iconst (v := 0) hx hb dX5_init_77 (by decide +kernel) ?_
  obtain ⟨i31, hi31⟩ := hW.o5 hk27_this
  refine va_put (D := (dC, dI)) (ci := 5) (v := .int 0) (ty := .int) (C := RX5) (T := TX5) (N := 11) hx hb hts inX5 tyX5 tyX5_ok nmX5 hown hK hP hD hS i31 hi31 rfl 7 (by decide) (hts (.fieldLink RX5 43 "SpellTurner$Reform" "keptCount" "I") ic_256) (fun _ h9 => h9) rfl (by decide +kernel) rfl rfl (Nat.le_of_ble_eq_true rfl) dX5_init_78 (fun H locs hP2 hD2 hS => ?_)
  obtain ⟨m78, w32, em78, hP, hD, hW⟩ : ∃ (z : Nat → Int32) (w : va_W), z = (va_up (G71 107) this 0) ∧ va_P (dC, dI) vwCl w H ∧ va_D A w ∧ LW w ad71 kk kd71 ln71 (va_up G71 107 z) (va_up P71 106 m73) U71 V71 X71 O71 := ⟨_, _, rfl, hP2, hD2, hW.setG hD hi31 (by rw [hk27_this]; decide) 107 0 (by rw [hk27_this]; rfl)⟩
  replace hr := vlS hr m78 em78
  clear em78
  refine lv_aload_n hx hb dX5_init_81 rfl (lv_at hl 0 rfl) ?_
  replace hr := tkS hr
  obtain ⟨zw1, zw2, hr, hq1, hq2⟩ := hr
  refine va_new (ci := 10) (fs := [.int 0, .null, .null, .int 0]) (C := RX10) (T := TX10) (N := 4) hx hb hts inX10 tyX10 tyX10_ok hown (hts (.classLink RX5 24 RX10) ic_504) (hts (.instantiable RX10 4) ic_505) (hts (.initialized RX10) ic_12) hK hP hD hS hA rfl (fun j hj => match j, hj with | 0, _ => rfl | 1, _ => rfl | 2, _ => rfl | 3, _ => rfl | j + 4, hj => absurd hj (by omega)) (by show _ ≤ uc; omega) (by show _ ≤ us; omega) dX5_init_82 (fun q82 H hP2 hD2 hS => ?_)
  replace hr := newcS hr hW hT hD2 (by decide) (fun _ => rfl)
  obtain ⟨G82, P82, U82, V82, X82, O82, kd82, ln82, cnt82, ad82, hr, hW, hT, hE2, hk_n82, hqa⟩ := hr
  subst hqa
  obtain ⟨w33, hP, hD, hW⟩ : ∃ w : va_W, va_P (dC, dI) vwCl w H ∧ va_D A w ∧ LW w ad82 kk kd82 ln82 G82 P82 U82 V82 X82 O82 := ⟨_, hP2, hD2, hW⟩
  clear hP2 hD2
  have ea_this : ad71 this = ad82 this := (hE2.1 this (by rw [hk27_this]; decide)).symm
  have hk33_this := (hE2.2 this (by rw [hk27_this]; decide)).trans hk27_this
  rw [ea_this] at hl
  rw [ea_this]
  clear ea_this
  replace hE := adE hE hE2
  clear hE2
  obtain ⟨ccn34, eccn34⟩ : ∃ y : Nat, y = (ccn28 + 1) := ⟨_, rfl⟩
  obtain ⟨csn34, ecsn34⟩ : ∃ y : Nat, y = (csn28 + 4) := ⟨_, rfl⟩
  refine W.widen (k := ccn34) (n := csn34) (Nat.le_of_eq eccn34.symm) (Nat.le_of_eq ecsn34.symm) ?_
  replace hu1 : ccn34 + zw1 = uc := by omega
  replace hu2 : csn34 + zw2 = us := by omega
  clear eccn34 ecsn34
  refine lv_dup hx hb dX5_init_85 rfl ?_
  refine lv_bipush (v := 40) hx hb dX5_init_86 (by decide +kernel) ?_
  refine lv_bipush (v := 24) hx hb dX5_init_88 (by decide +kernel) ?_
  replace hr := bA9S hr
  obtain ⟨c90_G, c90_P, c90_U, c90_V, c90_X, c90_O, c90_kd, c90_ln, c90_cnt, zv1, zv2, zw1, zw2, hc90, hr, hq1, hq2⟩ := hr
  have hFc := fr_all hD hS hA
  refine va_callv (va_runI (As := [.int 40, .int 24]) (rest := [.ref (ad82 cnt71), .ref (ad82 this)]) ⟨hx, hb, hml, hown, hts⟩ (m_X10_init l dC dI kk ad82 H.size w33 G82 P82 U82 V82 X82 O82 kd82 ln82 cnt82 cnt71 40 24 hk_n82 hW hT c90_G c90_P c90_U c90_V c90_X c90_O c90_kd c90_ln c90_cnt zv1 zv2 hc90) (cwI 2 hts (lwC_code ic_492) rfl rfl rfl (hts (.initialized RX10) ic_12) (hts (.methodLink RX5 26 yX10_init) ic_506) (hts (.instanceMethod yX10_init) ic_507) rfl (by decide +kernel) ⟨Nat.le_of_ble_eq_true rfl, Nat.le_of_ble_eq_true rfl⟩) ⟨fun a U g mk q => by obtain ⟨q0, q1, qP, qK, qD⟩ := q; exact ⟨q0, q1, qP, va_K.moved (u := U) (U := U.calling g mk a) (Vm.Alike.refl U.vm) qK, qD⟩, fun U hU hW => ⟨rfl, by rw [hU], by rw [hU]; exact hP, va_K.moved hW.alike hK, hD.weaken (fun _ _ _ _ => trivial)⟩⟩ rfl rfl hl.1 rfl (lv_room (Nat.le_of_ble_eq_true rfl)) dX5_init_90 ⟨(by show _ ≤ uc; omega), (by show _ ≤ us; omega)⟩) hS (fun q _ h => hFc q h) hFc (fun w35 t H1 locs ht hvm hw hB hz1 hk1 hS => ?_)
  obtain ⟨w35, ad90_35⟩ := w35
  dsimp only at hw hB
  obtain ⟨hW, hT, hE2⟩ := hw
  obtain ⟨hP1, hK1, hD1⟩ := hB
  rw [ht] at hP1
  obtain ⟨hP, hD⟩ := jn_all (w1 := w35) hFc hP1 hD1
  replace hP : va_P (dC, dI) vwCl w35 H1 := hP
  replace hD : va_D A w35 := hD
  clear hFc hP1 hK1 hD1 hk1 hz1 ht hvm
  generalize H1 = H at hP hS ⊢
  have ea_this : ad82 this = ad90_35 this := (hE2.1 this (by rw [hk33_this]; decide)).symm
  have hk35_this := (hE2.2 this (by rw [hk33_this]; decide)).trans hk33_this
  have ea_cnt71 : ad82 cnt71 = ad90_35 cnt71 := (hE2.1 cnt71 (by rw [hk_n82]; decide)).symm
  have hk35_cnt71 := (hE2.2 cnt71 (by rw [hk_n82]; decide)).trans hk_n82
  rw [ea_this] at hl
  rw [ea_this, ea_cnt71]
  clear ea_this ea_cnt71
  replace hE := adE hE hE2
  clear hE2
  obtain ⟨ccn36, eccn36⟩ : ∃ y : Nat, y = (ccn34 + zv1) := ⟨_, rfl⟩
  obtain ⟨csn36, ecsn36⟩ : ∃ y : Nat, y = (csn34 + zv2) := ⟨_, rfl⟩
  refine W.widen (k := ccn36) (n := csn36) (Nat.le_of_eq eccn36.symm) (Nat.le_of_eq ecsn36.symm) ?_
  replace hu1 : ccn36 + zw1 = uc := by omega
  replace hu2 : csn36 + zw2 = us := by omega
  clear eccn36 ecsn36
  obtain ⟨i37, hi37⟩ := hW.o5 hk35_this
  refine va_putF (D := (dC, dI)) (ci := 5) (v := .ref (ad90_35 cnt71)) (ty := (.object "SpellTurner$WordRow")) (C := RX5) (T := TX5) (N := 11) hx hb hts inX5 tyX5 tyX5_ok nmX5 hown hK hP hD hS i37 hi37 rfl 8 (by decide) (hts (.fieldLink RX5 46 "SpellTurner$Reform" "turnedParts" "LSpellTurner$WordRow;") ic_267) (fun _ h9 => h9) rfl hin rfl (by decide +kernel) rfl rfl (Nat.le_of_ble_eq_true rfl) dX5_init_93 (fun H locs hP2 hD2 hS => ?_)
  obtain ⟨m93, w38, em93, hP, hD, hW⟩ : ∃ (z : Nat → Option Nat) (w : va_W), z = (va_up (c90_P 108) this (some cnt71)) ∧ va_P (dC, dI) vwCl w H ∧ va_D A w ∧ LW w ad90_35 kk c90_kd c90_ln c90_G (va_up c90_P 108 z) c90_U c90_V c90_X c90_O := ⟨_, _, rfl, hP2, hD2, hW.setP hD hi37 (by rw [hk35_this]; decide) 108 (some cnt71) (by rw [hk35_this]; rfl)⟩
  replace hT : TYP c90_kd (va_up c90_P 108 m93) c90_O (c90_V 0) c90_cnt := by rw [em93]; exact hT.setP 108 this cnt71 hk35_cnt71
  replace hr := vlS hr m93 em93
  clear em93
  refine lv_aload_n hx hb dX5_init_96 rfl (lv_at hl 0 rfl) ?_
  refine lv_bipush (v := 40) hx hb dX5_init_97 (by decide +kernel) ?_
  replace hr := iteS hr
  obtain ⟨hi99, hr⟩ := hr
  replace hr := tkS hr
  obtain ⟨zw1, zw2, hr, hq1, hq2⟩ := hr
  refine va_newa (atype := .boolean) (a0 := ((Int32.toNatClampNeg 40), .inl (fun _ => 0))) (ty := .boolean) (N' := (Int32.toNatClampNeg 40)) hx hb (hts (.arrayClass .boolean) ic_508) rfl hK hP hD hS hA (fun _ => rfl) (nabS hi99).1 rfl (nabB hi99 (by decide)) (by show _ ≤ uc; omega) (by show _ ≤ us; omega) dX5_init_99 (fun q99 cA H hK2 hP2 hD2 hS => ?_)
  obtain rfl : cA = kk 2 := kA_boolean hK2
  clear hK2
  replace hr := newcS hr hW hT hD2 (by decide) (fun _ => rfl)
  obtain ⟨G99, P99, U99, V99, X99, O99, kd99, ln99, cnt99, ad99, hr, hW, hT, hE2, hk_n99, hqa⟩ := hr
  subst hqa
  obtain ⟨w39, hP, hD, hW⟩ : ∃ w : va_W, va_P (dC, dI) vwCl w H ∧ va_D A w ∧ LW w ad99 kk kd99 ln99 G99 P99 U99 V99 X99 O99 := ⟨_, hP2, hD2, hW⟩
  clear hP2 hD2
  have ea_this : ad90_35 this = ad99 this := (hE2.1 this (by rw [hk35_this]; decide)).symm
  have hk39_this := (hE2.2 this (by rw [hk35_this]; decide)).trans hk35_this
  rw [ea_this] at hl
  rw [ea_this]
  clear ea_this
  replace hE := adE hE hE2
  clear hE2
  obtain ⟨ccn40, eccn40⟩ : ∃ y : Nat, y = (ccn36 + 1) := ⟨_, rfl⟩
  obtain ⟨csn40, ecsn40⟩ : ∃ y : Nat, y = (csn36 + (Int32.toNatClampNeg 40)) := ⟨_, rfl⟩
  refine W.widen (k := ccn40) (n := csn40) (Nat.le_of_eq eccn40.symm) (Nat.le_of_eq ecsn40.symm) ?_
  replace hu1 : ccn40 + zw1 = uc := by omega
  replace hu2 : csn40 + zw2 = us := by omega
  clear eccn40 ecsn40
  obtain ⟨i41, hi41⟩ := hW.o5 hk39_this
  refine va_putF (D := (dC, dI)) (ci := 5) (v := .ref (ad99 c90_cnt)) (ty := (.array .boolean)) (C := RX5) (T := TX5) (N := 11) hx hb hts inX5 tyX5 tyX5_ok nmX5 hown hK hP hD hS i41 hi41 rfl 9 (by decide) (hts (.fieldLink RX5 49 "SpellTurner$Reform" "partHolds" "[Z") ic_509) (fun _ h9 => h9) rfl hin rfl (by decide +kernel) rfl rfl (Nat.le_of_ble_eq_true rfl) dX5_init_101 (fun H locs hP2 hD2 hS => ?_)
  obtain ⟨m101, w42, em101, hP, hD, hW⟩ : ∃ (z : Nat → Option Nat) (w : va_W), z = (va_up (P99 109) this (some c90_cnt)) ∧ va_P (dC, dI) vwCl w H ∧ va_D A w ∧ LW w ad99 kk kd99 ln99 G99 (va_up P99 109 z) U99 V99 X99 O99 := ⟨_, _, rfl, hP2, hD2, hW.setP hD hi41 (by rw [hk39_this]; decide) 109 (some c90_cnt) (by rw [hk39_this]; rfl)⟩
  replace hT : TYP kd99 (va_up P99 109 m101) O99 (V99 0) cnt99 := by rw [em101]; exact hT.setP 109 this c90_cnt hk_n99
  replace hr := vlS hr m101 em101
  clear em101
  refine lv_aload_n hx hb dX5_init_104 rfl (lv_at hl 0 rfl) ?_
  refine lv_bipush (v := 40) hx hb dX5_init_105 (by decide +kernel) ?_
  replace hr := iteS hr
  obtain ⟨hi107, hr⟩ := hr
  replace hr := tkS hr
  obtain ⟨zw1, zw2, hr, hq1, hq2⟩ := hr
  refine va_newa (atype := .long) (a0 := ((Int32.toNatClampNeg 40), .inr (.inl (fun _ => 0)))) (ty := .long) (N' := (Int32.toNatClampNeg 40)) hx hb (hts (.arrayClass .long) ic_510) rfl hK hP hD hS hA (fun _ => rfl) (nabS hi107).1 rfl (nabB hi107 (by decide)) (by show _ ≤ uc; omega) (by show _ ≤ us; omega) dX5_init_107 (fun q107 cA H hK2 hP2 hD2 hS => ?_)
  obtain rfl : cA = kk 3 := kA_long hK2
  clear hK2
  replace hr := newcS hr hW hT hD2 (by decide) (fun _ => rfl)
  obtain ⟨G107, P107, U107, V107, X107, O107, kd107, ln107, cnt107, ad107, hr, hW, hT, hE2, hk_n107, hqa⟩ := hr
  subst hqa
  obtain ⟨w43, hP, hD, hW⟩ : ∃ w : va_W, va_P (dC, dI) vwCl w H ∧ va_D A w ∧ LW w ad107 kk kd107 ln107 G107 P107 U107 V107 X107 O107 := ⟨_, hP2, hD2, hW⟩
  clear hP2 hD2
  have ea_this : ad99 this = ad107 this := (hE2.1 this (by rw [hk39_this]; decide)).symm
  have hk43_this := (hE2.2 this (by rw [hk39_this]; decide)).trans hk39_this
  rw [ea_this] at hl
  rw [ea_this]
  clear ea_this
  replace hE := adE hE hE2
  clear hE2
  obtain ⟨ccn44, eccn44⟩ : ∃ y : Nat, y = (ccn40 + 1) := ⟨_, rfl⟩
  obtain ⟨csn44, ecsn44⟩ : ∃ y : Nat, y = (csn40 + (Int32.toNatClampNeg 40)) := ⟨_, rfl⟩
  refine W.widen (k := ccn44) (n := csn44) (Nat.le_of_eq eccn44.symm) (Nat.le_of_eq ecsn44.symm) ?_
  replace hu1 : ccn44 + zw1 = uc := by omega
  replace hu2 : csn44 + zw2 = us := by omega
  clear eccn44 ecsn44
  obtain ⟨i45, hi45⟩ := hW.o5 hk43_this
  refine va_putF (D := (dC, dI)) (ci := 5) (v := .ref (ad107 cnt99)) (ty := (.array .long)) (C := RX5) (T := TX5) (N := 11) hx hb hts inX5 tyX5 tyX5_ok nmX5 hown hK hP hD hS i45 hi45 rfl 10 (by decide) (hts (.fieldLink RX5 52 "SpellTurner$Reform" "partUses" "[J") ic_511) (fun _ h9 => h9) rfl hin rfl (by decide +kernel) rfl rfl (Nat.le_of_ble_eq_true rfl) dX5_init_109 (fun H locs hP2 hD2 hS => ?_)
  obtain ⟨m109, w46, em109, hP, hD, hW⟩ : ∃ (z : Nat → Option Nat) (w : va_W), z = (va_up (P107 110) this (some cnt99)) ∧ va_P (dC, dI) vwCl w H ∧ va_D A w ∧ LW w ad107 kk kd107 ln107 G107 (va_up P107 110 z) U107 V107 X107 O107 := ⟨_, _, rfl, hP2, hD2, hW.setP hD hi45 (by rw [hk43_this]; decide) 110 (some cnt99) (by rw [hk43_this]; rfl)⟩
  replace hT : TYP kd107 (va_up P107 110 m109) O107 (V107 0) cnt107 := by rw [em109]; exact hT.setP 110 this cnt99 hk_n107
  replace hr := vlS hr m109 em109
  clear em109
  replace hr := retS hr
  obtain ⟨hr, hv1, hv2⟩ := hr
  refine W.widen (k := uc) (n := us) (by omega) (by omega) ?_
  exact K 112 ls _ _ _ _ _ _ _ _ _ ad107 w46 H _ hr dX5_init_112 hE hW hT hP hD hS
set_option maxHeartbeats 4000000 in
set_option maxRecDepth 100000 in
theorem m_X5_init (l : Launch) (dC : Nat → ClassId) (dI : Nat → Nat → Nat) (kk : Nat → ClassId) (ad : Nat → Nat) (sz : Nat) (ws : va_W) (G : Nat → Nat → Int32) (P : Nat → Nat → Option Nat) (U : Nat → Nat → Int64) (V : Nat → Nat → Nat → Int32) (X : Nat → Nat → Nat → Int64) (O : Nat → Nat → Nat → Option Nat) (kd : Nat → Nat) (ln : Nat → Nat) (cnt : Nat) (this : Nat) (hk_this : kd this = 6) (hW : LW ws ad kk kd ln G P U V X O) (hT : TYP kd P O (V 0) cnt) (c_G : Nat → Nat → Int32) (c_P : Nat → Nat → Option Nat) (c_U : Nat → Nat → Int64) (c_V : Nat → Nat → Nat → Int32) (c_X : Nat → Nat → Nat → Int64) (c_O : Nat → Nat → Nat → Option Nat) (c_kd : Nat → Nat) (c_ln : Nat → Nat) (c_cnt : Nat) (uc us : Nat) (hr : f_X5_init G P U V X O kd ln cnt this = some ((c_G, c_P, c_U, c_V, c_X, c_O, c_kd, c_ln, c_cnt), uc, us)) : Met l yX5_init vmX5_init ({ frames := 4, cells := uc, slots := us, locals := 112 } : Room) (va_Pc [.ref (ad this)] (fun U => U.heap.size = sz ∧ va_P (dC, dI) vwCl ws U.heap ∧ va_K (dC, dI) vwCl (cT kk) U ∧ va_D (fun _ => True) ws ∧ EnvOK U)) (va_Qv (fun (x : (va_W × (Nat → Nat))) => LW x.1 x.2 kk c_kd c_ln c_G c_P c_U c_V c_X c_O ∧ TYP c_kd c_P c_O (c_V 0) c_cnt ∧ adEx kd ad c_kd x.2) (fun x t => va_P (dC, dI) vwCl x.1 t.heap ∧ va_K (dC, dI) vwCl (cT kk) t ∧ va_D (va_A ws sz) x.1) (va_A ws sz)) uc us (va_A ws sz) := by
  refine Met.ofW (cc := cX5_init) (maxL := 1) (ret := none) (by decide) rfl ?_
  intro p e s m args below meth c s₁ B hml hv
  obtain ⟨rfl, hsz, hP, hK, hD0, hEn⟩ := hv
  have hx := B.exec
  have hb := B.bytes
  have hrt := B.returns
  have hts := atoms_spec (ws := vmX5_init) B.pre
  have hown : s.vm.findClass RX5 = some m.cls := findClass_of_methodNamed B.named
  subst hsz
  have hD := hD0.self (sz := s.heap.size)
  generalize hAe : va_A ws s.heap.size = A at hD ⊢
  have hA : ∀ q : Nat, s.heap.size ≤ q → A q := fun q h => by rw [← hAe]; exact Or.inr h
  have hS : va_S A s.heap s.heap [] := va_S.rf
  have hl := lv_entry ([.ref (ad this)]) (n := 1) (Nat.le_of_ble_eq_true rfl)
  rw [lg_entry_eq]
  generalize (lg_sl ([.ref (ad this)]) ++ List.replicate (1 - (lg_sl ([.ref (ad this)])).length) Slot.unset).toArray = ls at hl ⊢
  have hin : meth.name = "<init>" := (name_of_methodNamed B.named B.method).1
  exact bm_X5_init this hk_this c_G c_P c_U c_V c_X c_O c_kd c_ln c_cnt uc us hr hx hb hml hown hts hin hA hK hEn hW hT hP hD hS hl (fun pc ls c_Gz c_Pz c_Uz c_Vz c_Xz c_Oz c_kdz c_lnz c_cntz adz ws H locs he hd hE hW hT hP hD hS => by cases he; exact W.vret hx hb hrt (fun t ht hW9 => ⟨⟨(ws, adz), rfl, ⟨hW, hT, hE⟩, by rw [ht]; exact hP, va_K.moved hW9.alike hK, hD⟩, hS.F ht⟩) hS.2.2 hd)
set_option maxHeartbeats 4000000 in
set_option maxRecDepth 100000 in
theorem bm_J7_checkLength_df160 {p : Program} {l : Launch} {e : Env} {s : State} {m : MethodId} {args : Array Value} {below : List Frame} {meth : Method} {c : Code} {Q : State → Prop} {A : Nat → Prop} {dC : Nat → ClassId} {dI : Nat → Nat → Nat} {kk : Nat → ClassId} {ad : Nat → Nat} {ws : va_W} {G : Nat → Nat → Int32} {P : Nat → Nat → Option Nat} {U : Nat → Nat → Int64} {V : Nat → Nat → Nat → Int32} {X : Nat → Nat → Nat → Int64} {O : Nat → Nat → Nat → Option Nat} {kd : Nat → Nat} {ln : Nat → Nat} {cnt : Nat} {H : Heap} {locs : List Loc} {ls : Array Slot} (p0 : Int32) (p1 : Int32) (hr : f_J7_checkLength_df160 G P U V X O kd ln cnt p0 p1 = some ()) (hx : p.tables.exec = Jvm.exec) (hb : c.code = cJ7_checkLength_df160) (hml : c.maxLocals = 2) (hown : s.vm.findClass RJ7 = some m.cls) (hts : ∀ w ∈ vmJ7_checkLength_df160, w.before args s = true) (hA : ∀ q : Nat, s.heap.size ≤ q → A q) (hK : va_K (dC, dI) vwCl (cT kk) s) (hW : LW ws ad kk kd ln G P U V X O) (hT : TYP kd P O (V 0) cnt) (hP : va_P (dC, dI) vwCl ws H) (hD : va_D A ws) (hS : va_S A s.heap H locs) (hl : lv_has ls 2 [(0, .int p0), (1, .int p1)])
    (K : ∀ (pc : Nat) (ls : Array Slot) (ws : va_W) (H : Heap) (locs : List Loc), some () = some () → decode cJ7_checkLength_df160 pc = .ok (.return_, 1) → LW ws ad kk kd ln G P U V X O → TYP kd P O (V 0) cnt → va_P (dC, dI) vwCl ws H → va_D A ws → va_S A s.heap H locs → W p l e ({ frames := 2, cells := 0, slots := 0, locals := 60 } : Room) s m args below meth c H locs 0 0 Q (F0 m pc ls [])) : W p l e ({ frames := 2, cells := 0, slots := 0, locals := 60 } : Room) s m args below meth c H locs 0 0 Q (F0 m 0 ls []) := by
  unfold f_J7_checkLength_df160 at hr
  refine lv_iload_n hx hb dJ7_checkLength_df160_0 rfl (lv_at hl 1 rfl) ?_
  refine lv_iload_n hx hb dJ7_checkLength_df160_1 rfl (lv_at hl 0 rfl) ?_
  refine lv_icmp_ge (tgt := 37) hx hb dJ7_checkLength_df160_2 (by decide) (fun c2 => ?_) (fun c2 => ?_)
  · replace hr := iteT c2 hr
    exact K 37 ls ws H _ hr dJ7_checkLength_df160_37 hW hT hP hD hS
  · replace hr := iteF c2 hr
    exact nomatch hr
set_option maxHeartbeats 4000000 in
set_option maxRecDepth 100000 in
theorem m_J7_checkLength_df160 (l : Launch) (dC : Nat → ClassId) (dI : Nat → Nat → Nat) (kk : Nat → ClassId) (ad : Nat → Nat) (sz : Nat) (ws : va_W) (G : Nat → Nat → Int32) (P : Nat → Nat → Option Nat) (U : Nat → Nat → Int64) (V : Nat → Nat → Nat → Int32) (X : Nat → Nat → Nat → Int64) (O : Nat → Nat → Nat → Option Nat) (kd : Nat → Nat) (ln : Nat → Nat) (cnt : Nat) (p0 : Int32) (p1 : Int32) (hW : LW ws ad kk kd ln G P U V X O) (hT : TYP kd P O (V 0) cnt) (hr : f_J7_checkLength_df160 G P U V X O kd ln cnt p0 p1 = some ()) : Met l yJ7_checkLength_df160 vmJ7_checkLength_df160 ({ frames := 2, cells := 0, slots := 0, locals := 60 } : Room) (va_Pc [.int p0, .int p1] (fun U => U.heap.size = sz ∧ va_P (dC, dI) vwCl ws U.heap ∧ va_K (dC, dI) vwCl (cT kk) U ∧ va_D (fun _ => True) ws)) (va_Qv (fun w => LW w ad kk kd ln G P U V X O ∧ TYP kd P O (V 0) cnt) (fun w t => va_P (dC, dI) vwCl w t.heap ∧ va_K (dC, dI) vwCl (cT kk) t ∧ va_D (va_A ws sz) w) (va_A ws sz)) 0 0 (va_A ws sz) := by
  refine Met.ofW (cc := cJ7_checkLength_df160) (maxL := 2) (ret := none) (by decide) rfl ?_
  intro p e s m args below meth c s₁ B hml hv
  obtain ⟨rfl, hsz, hP, hK, hD0⟩ := hv
  have hx := B.exec
  have hb := B.bytes
  have hrt := B.returns
  have hts := atoms_spec (ws := vmJ7_checkLength_df160) B.pre
  have hown : s.vm.findClass RJ7 = some m.cls := findClass_of_methodNamed B.named
  subst hsz
  have hD := hD0.self (sz := s.heap.size)
  generalize hAe : va_A ws s.heap.size = A at hD ⊢
  have hA : ∀ q : Nat, s.heap.size ≤ q → A q := fun q h => by rw [← hAe]; exact Or.inr h
  have hS : va_S A s.heap s.heap [] := va_S.rf
  have hl := lv_entry ([.int p0, .int p1]) (n := 2) (Nat.le_of_ble_eq_true rfl)
  rw [lg_entry_eq]
  generalize (lg_sl ([.int p0, .int p1]) ++ List.replicate (2 - (lg_sl ([.int p0, .int p1])).length) Slot.unset).toArray = ls at hl ⊢
  exact bm_J7_checkLength_df160 p0 p1 hr hx hb hml hown hts hA hK hW hT hP hD hS hl (fun pc ls ws H locs he hd hW hT hP hD hS => by cases he; exact W.vret hx hb hrt (fun t ht hW9 => ⟨⟨ws, rfl, ⟨hW, hT⟩, by rw [ht]; exact hP, va_K.moved hW9.alike hK, hD⟩, hS.F ht⟩) hS.2.2 hd)
set_option maxHeartbeats 4000000 in
set_option maxRecDepth 100000 in
theorem bm_J7_copyOfRangeByte_39247 {p : Program} {l : Launch} {e : Env} {s : State} {m : MethodId} {args : Array Value} {below : List Frame} {meth : Method} {c : Code} {Q : State → Prop} {A : Nat → Prop} {dC : Nat → ClassId} {dI : Nat → Nat → Nat} {kk : Nat → ClassId} {ad : Nat → Nat} {ws : va_W} {G : Nat → Nat → Int32} {P : Nat → Nat → Option Nat} {U : Nat → Nat → Int64} {V : Nat → Nat → Nat → Int32} {X : Nat → Nat → Nat → Int64} {O : Nat → Nat → Nat → Option Nat} {kd : Nat → Nat} {ln : Nat → Nat} {cnt : Nat} {H : Heap} {locs : List Loc} {ls : Array Slot} (p0 : Nat) (p1 : Int32) (p2 : Int32) (hk_p0 : kd p0 = 100) (r : Nat) (c_G : Nat → Nat → Int32) (c_P : Nat → Nat → Option Nat) (c_U : Nat → Nat → Int64) (c_V : Nat → Nat → Nat → Int32) (c_X : Nat → Nat → Nat → Int64) (c_O : Nat → Nat → Nat → Option Nat) (c_kd : Nat → Nat) (c_ln : Nat → Nat) (c_cnt : Nat) (uc us : Nat) (hr : f_J7_copyOfRangeByte_39247 G P U V X O kd ln cnt p0 p1 p2 = some ((r, c_G, c_P, c_U, c_V, c_X, c_O, c_kd, c_ln, c_cnt), uc, us)) (hx : p.tables.exec = Jvm.exec) (hb : c.code = cJ7_copyOfRangeByte_39247) (hml : c.maxLocals = 5) (hown : s.vm.findClass RJ7 = some m.cls) (hts : ∀ w ∈ vmJ7_copyOfRangeByte_39247, w.before args s = true) (hA : ∀ q : Nat, s.heap.size ≤ q → A q) (hK : va_K (dC, dI) vwCl (cT kk) s) (hW : LW ws ad kk kd ln G P U V X O) (hT : TYP kd P O (V 0) cnt) (hP : va_P (dC, dI) vwCl ws H) (hD : va_D A ws) (hS : va_S A s.heap H locs) (hl : lv_has ls 5 [(0, .ref (ad p0)), (1, .int p1), (2, .int p2)])
    (K : ∀ (pc : Nat) (ls : Array Slot) (rz : Nat) (c_Gz : Nat → Nat → Int32) (c_Pz : Nat → Nat → Option Nat) (c_Uz : Nat → Nat → Int64) (c_Vz : Nat → Nat → Nat → Int32) (c_Xz : Nat → Nat → Nat → Int64) (c_Oz : Nat → Nat → Nat → Option Nat) (c_kdz : Nat → Nat) (c_lnz : Nat → Nat) (c_cntz : Nat) (adz : Nat → Nat) (ws : va_W) (H : Heap) (locs : List Loc), some (rz, c_Gz, c_Pz, c_Uz, c_Vz, c_Xz, c_Oz, c_kdz, c_lnz, c_cntz) = some (r, c_G, c_P, c_U, c_V, c_X, c_O, c_kd, c_ln, c_cnt) → c_kdz rz = 100 → decode cJ7_copyOfRangeByte_39247 pc = .ok (.areturn, 1) → adEx kd ad c_kdz adz → LW ws adz kk c_kdz c_lnz c_Gz c_Pz c_Uz c_Vz c_Xz c_Oz → TYP c_kdz c_Pz c_Oz (c_Vz 0) c_cntz → va_P (dC, dI) vwCl ws H → va_D A ws → va_S A s.heap H locs → W p l e ({ frames := 3, cells := uc, slots := us, locals := 120 } : Room) s m args below meth c H locs uc us Q (F0 m pc ls [.ref (adz rz)])) : W p l e ({ frames := 3, cells := uc, slots := us, locals := 120 } : Room) s m args below meth c H locs 0 0 Q (F0 m 0 ls []) := by
  have hu1 : 0 + uc = uc := Nat.zero_add _
  have hu2 : 0 + us = us := Nat.zero_add _
  have hE : adEx kd ad kd ad := ⟨fun _ _ => rfl, fun _ _ => rfl⟩
  unfold f_J7_copyOfRangeByte_39247 at hr
  refine lv_iload_n hx hb dJ7_copyOfRangeByte_39247_0 rfl (lv_at hl 1 rfl) ?_
  refine lv_iload_n hx hb dJ7_copyOfRangeByte_39247_1 rfl (lv_at hl 2 rfl) ?_
  replace hr := b0S hr
  obtain ⟨hc2, hr⟩ := hr
  have hFc := fr_all hD hS hA
  refine va_callv (va_runS (As := [.int p1, .int p2]) (rest := []) ⟨hx, hb, hml, hown, hts⟩ (m_J7_checkLength_df160 l dC dI kk ad H.size ws G P U V X O kd ln cnt p1 p2 hW hT hc2) (va_cwS 2 hts gc_RJ7_J7_checkLength_df160_343 rfl rfl rfl (by decide +kernel) ⟨Nat.le_of_ble_eq_true rfl, Nat.le_of_ble_eq_true rfl⟩) ⟨fun a U g mk q => by obtain ⟨q0, q1, qP, qK, qD⟩ := q; exact ⟨q0, q1, qP, va_K.moved (u := U) (U := U.calling g mk a) (Vm.Alike.refl U.vm) qK, qD⟩, fun U hU hW => ⟨rfl, by rw [hU], by rw [hU]; exact hP, va_K.moved hW.alike hK, hD.weaken (fun _ _ _ _ => trivial)⟩⟩ rfl rfl hl.1 rfl (lv_room (Nat.le_of_ble_eq_true rfl)) dJ7_copyOfRangeByte_39247_2 ⟨(by show _ ≤ uc; omega), (by show _ ≤ us; omega)⟩) hS (fun q _ h => hFc q h) hFc (fun w1 t H1 locs ht hvm hw hB hz1 hk1 hS => ?_)
  obtain ⟨hW, hT⟩ := hw
  obtain ⟨hP1, hK1, hD1⟩ := hB
  rw [ht] at hP1
  obtain ⟨hP, hD⟩ := jn_all (w1 := w1) hFc hP1 hD1
  replace hP : va_P (dC, dI) vwCl w1 H1 := hP
  replace hD : va_D A w1 := hD
  clear hFc hP1 hK1 hD1 hk1 hz1 ht hvm
  generalize H1 = H at hP hS ⊢
  refine lv_iload_n hx hb dJ7_copyOfRangeByte_39247_5 rfl (lv_at hl 2 rfl) ?_
  refine lv_iload_n hx hb dJ7_copyOfRangeByte_39247_6 rfl (lv_at hl 1 rfl) ?_
  refine lv_isub hx hb dJ7_copyOfRangeByte_39247_7 ?_
  refine lv_topi (fun x8 ex8 => ?_)
  replace hr := vlS hr x8 ex8
  clear ex8
  refine lv_istore_n (lv' := [(3, .int x8), (0, .ref (ad p0)), (1, .int p1), (2, .int p2)]) hx hb dJ7_copyOfRangeByte_39247_8 rfl hl (by decide) rfl (fun ls hl => ?_)
  refine lv_iload_n hx hb dJ7_copyOfRangeByte_39247_9 rfl (lv_at hl 0 rfl) ?_
  replace hr := iteS hr
  obtain ⟨hi10, hr⟩ := hr
  replace hr := tkS hr
  obtain ⟨zw1, zw2, hr, hq1, hq2⟩ := hr
  refine va_newa (atype := .byte) (a0 := ((Int32.toNatClampNeg x8), .inl (fun _ => 0))) (ty := .byte) (N' := (Int32.toNatClampNeg x8)) hx hb (hts (.arrayClass .byte) ic_496) rfl hK hP hD hS hA (fun _ => rfl) (nabS hi10).1 rfl (nabB hi10 (by decide)) (by show _ ≤ uc; omega) (by show _ ≤ us; omega) dJ7_copyOfRangeByte_39247_10 (fun q10 cA H hK2 hP2 hD2 hS => ?_)
  obtain rfl : cA = kk 0 := kA_byte hK2
  clear hK2
  replace hr := newcS hr hW hT hD2 (by decide) (fun _ => rfl)
  obtain ⟨G10, P10, U10, V10, X10, O10, kd10, ln10, cnt10, ad10, hr, hW, hT, hE2, hk_n10, hqa⟩ := hr
  subst hqa
  obtain ⟨w2, hP, hD, hW⟩ : ∃ w : va_W, va_P (dC, dI) vwCl w H ∧ va_D A w ∧ LW w ad10 kk kd10 ln10 G10 P10 U10 V10 X10 O10 := ⟨_, hP2, hD2, hW⟩
  clear hP2 hD2
  have ea_p0 : ad p0 = ad10 p0 := (hE2.1 p0 (by rw [hk_p0]; decide)).symm
  have hk2_p0 := (hE2.2 p0 (by rw [hk_p0]; decide)).trans hk_p0
  rw [ea_p0] at hl
  clear ea_p0
  replace hE := adE hE hE2
  clear hE2
  obtain ⟨ccn3, eccn3⟩ : ∃ y : Nat, y = (0 + 1) := ⟨_, rfl⟩
  obtain ⟨csn3, ecsn3⟩ : ∃ y : Nat, y = (0 + (Int32.toNatClampNeg x8)) := ⟨_, rfl⟩
  refine W.widen (k := ccn3) (n := csn3) (Nat.le_of_eq eccn3.symm) (Nat.le_of_eq ecsn3.symm) ?_
  replace hu1 : ccn3 + zw1 = uc := by omega
  replace hu2 : csn3 + zw2 = us := by omega
  clear eccn3 ecsn3
  refine lv_astore (lv' := [(4, .ref (ad10 cnt)), (3, .int x8), (0, .ref (ad10 p0)), (1, .int p1), (2, .int p2)]) hx hb dJ7_copyOfRangeByte_39247_12 hl (by decide) rfl (fun ls hl => ?_)
  refine lv_aload_n hx hb dJ7_copyOfRangeByte_39247_14 rfl (lv_at hl 2 rfl) ?_
  refine lv_iload_n hx hb dJ7_copyOfRangeByte_39247_15 rfl (lv_at hl 3 rfl) ?_
  refine lv_aload hx hb dJ7_copyOfRangeByte_39247_16 (lv_at hl 0 rfl) ?_
  refine lv_iconst (v := 0) hx hb dJ7_copyOfRangeByte_39247_18 (by decide +kernel) ?_
  refine lv_aload_n hx hb dJ7_copyOfRangeByte_39247_19 rfl (lv_at hl 2 rfl) ?_
  obtain ⟨i4, hi4⟩ := hW.v0 hk2_p0
  refine va_alen (v := (Int32.ofNat (ln10 p0))) hx hb hK hP i4 0 hi4 rfl rfl dJ7_copyOfRangeByte_39247_20 ?_
  refine lv_iload_n hx hb dJ7_copyOfRangeByte_39247_21 rfl (lv_at hl 3 rfl) ?_
  refine lv_isub hx hb dJ7_copyOfRangeByte_39247_22 ?_
  refine lv_iload_n hx hb dJ7_copyOfRangeByte_39247_23 rfl (lv_at hl 1 rfl) ?_
  refine va_mmin hx hb (by rw [hml]; exact hl.1.symm) hown (hts (.methodLink RJ7 304 Lib.Math.min.name) ic_516) (hts (.static Lib.Math.min.name) ic_197) (hts (.initialized "java/lang/Math") ic_198) (hts (.code Lib.Math.min.name Lib.Math.min.code 2 (some .int)) ic_199) (Nat.le_of_ble_eq_true rfl) (Nat.le_of_ble_eq_true rfl) (by first | (show _ ≤ uc; omega) | (show _ ≤ us; omega)) (by first | (show _ ≤ uc; omega) | (show _ ≤ us; omega)) dJ7_copyOfRangeByte_39247_24 ?_
  replace hr := iteS hr
  obtain ⟨hi27, hr⟩ := hr
  obtain ⟨i5, hi5⟩ := hW.v0 hk2_p0
  obtain ⟨i6, hi6⟩ := hW.v0 hk_n10
  refine va_copyi (f := ((V10 0) p0)) (g := ((V10 0) cnt)) hx hb (by rw [hml]; exact hl.1.symm) hown (hts (.methodLink RJ7 150 arraycopyName) ic_517) (hts (.native arraycopyName) ic_16) (hts (.static arraycopyName) ic_17) (hts (.initialized "java/lang/System") ic_18) hK hP hD hS i5 i6 0 0 hi5 hi6 rfl rfl rfl (cpbS hi27).1 (cpbS hi27).2.1 (cpbS hi27).2.2.1 (cpbS hi27).2.2.2.1 (cpbS hi27).2.2.2.2 (fun _ _ => hT.2.2.1 _ _) (Nat.le_of_ble_eq_true rfl) (Nat.le_of_ble_eq_true rfl) dJ7_copyOfRangeByte_39247_27 (fun H locs hP2 hD2 hS => ?_)
  obtain ⟨m27, w7, em27, hP, hD, hW⟩ : ∃ (z : Nat → Nat → Int32) (w : va_W), z = (va_up (V10 0) cnt (va_cpy ((V10 0) p0) ((V10 0) cnt) (Int32.toNatClampNeg p1) (Int32.toNatClampNeg 0) (Int32.toNatClampNeg (if x8 < ((Int32.ofNat (ln10 p0)) - p1) then x8 else ((Int32.ofNat (ln10 p0)) - p1))))) ∧ va_P (dC, dI) vwCl w H ∧ va_D A w ∧ LW w ad10 kk kd10 ln10 G10 P10 U10 (va_up V10 0 z) X10 O10 := ⟨_, _, rfl, hP2, hD2, hW.setV hD hi6 (by rw [hk_n10]; decide) 0 (va_cpy ((V10 0) p0) ((V10 0) cnt) (Int32.toNatClampNeg p1) (Int32.toNatClampNeg 0) (Int32.toNatClampNeg (if x8 < ((Int32.ofNat (ln10 p0)) - p1) then x8 else ((Int32.ofNat (ln10 p0)) - p1)))) (by rw [hk_n10]; rfl)⟩
  replace hT : TYP kd10 P10 O10 m27 cnt10 := by rw [em27]; exact hT.setB cnt _ (fit_cpy (hT.2.2.1 p0) (hT.2.2.1 cnt) _ _ _)
  replace hr := vlS hr m27 em27
  clear em27
  refine lv_aload hx hb dJ7_copyOfRangeByte_39247_30 (lv_at hl 0 rfl) ?_
  replace hr := retS hr
  obtain ⟨hr, hv1, hv2⟩ := hr
  refine W.widen (k := uc) (n := us) (by omega) (by omega) ?_
  exact K 32 ls _ _ _ _ _ _ _ _ _ _ ad10 w7 H _ hr hk_n10 dJ7_copyOfRangeByte_39247_32 hE hW hT hP hD hS
set_option maxHeartbeats 4000000 in
set_option maxRecDepth 100000 in
theorem m_J7_copyOfRangeByte_39247 (l : Launch) (dC : Nat → ClassId) (dI : Nat → Nat → Nat) (kk : Nat → ClassId) (ad : Nat → Nat) (sz : Nat) (ws : va_W) (G : Nat → Nat → Int32) (P : Nat → Nat → Option Nat) (U : Nat → Nat → Int64) (V : Nat → Nat → Nat → Int32) (X : Nat → Nat → Nat → Int64) (O : Nat → Nat → Nat → Option Nat) (kd : Nat → Nat) (ln : Nat → Nat) (cnt : Nat) (p0 : Nat) (p1 : Int32) (p2 : Int32) (hk_p0 : kd p0 = 100) (hW : LW ws ad kk kd ln G P U V X O) (hT : TYP kd P O (V 0) cnt) (r : Nat) (c_G : Nat → Nat → Int32) (c_P : Nat → Nat → Option Nat) (c_U : Nat → Nat → Int64) (c_V : Nat → Nat → Nat → Int32) (c_X : Nat → Nat → Nat → Int64) (c_O : Nat → Nat → Nat → Option Nat) (c_kd : Nat → Nat) (c_ln : Nat → Nat) (c_cnt : Nat) (uc us : Nat) (hr : f_J7_copyOfRangeByte_39247 G P U V X O kd ln cnt p0 p1 p2 = some ((r, c_G, c_P, c_U, c_V, c_X, c_O, c_kd, c_ln, c_cnt), uc, us)) : Met l yJ7_copyOfRangeByte_39247 vmJ7_copyOfRangeByte_39247 ({ frames := 3, cells := uc, slots := us, locals := 120 } : Room) (va_Pc [.ref (ad p0), .int p1, .int p2] (fun U => U.heap.size = sz ∧ va_P (dC, dI) vwCl ws U.heap ∧ va_K (dC, dI) vwCl (cT kk) U ∧ va_D (fun _ => True) ws)) (va_Qr (fun (x : (va_W × (Nat → Nat))) => LW x.1 x.2 kk c_kd c_ln c_G c_P c_U c_V c_X c_O ∧ TYP c_kd c_P c_O (c_V 0) c_cnt ∧ c_kd r = 100 ∧ adEx kd ad c_kd x.2) (fun x ra t => ra = x.2 r ∧ va_P (dC, dI) vwCl x.1 t.heap ∧ va_K (dC, dI) vwCl (cT kk) t ∧ va_D (va_A ws sz) x.1) (va_A ws sz)) uc us (va_A ws sz) := by
  refine Met.ofW (cc := cJ7_copyOfRangeByte_39247) (maxL := 5) (ret := (some (.array .byte))) (by decide) rfl ?_
  intro p e s m args below meth c s₁ B hml hv
  obtain ⟨rfl, hsz, hP, hK, hD0⟩ := hv
  have hx := B.exec
  have hb := B.bytes
  have hrt := B.returns
  have hts := atoms_spec (ws := vmJ7_copyOfRangeByte_39247) B.pre
  have hown : s.vm.findClass RJ7 = some m.cls := findClass_of_methodNamed B.named
  subst hsz
  have hD := hD0.self (sz := s.heap.size)
  generalize hAe : va_A ws s.heap.size = A at hD ⊢
  have hA : ∀ q : Nat, s.heap.size ≤ q → A q := fun q h => by rw [← hAe]; exact Or.inr h
  have hS : va_S A s.heap s.heap [] := va_S.rf
  have hl := lv_entry ([.ref (ad p0), .int p1, .int p2]) (n := 5) (Nat.le_of_ble_eq_true rfl)
  rw [lg_entry_eq]
  generalize (lg_sl ([.ref (ad p0), .int p1, .int p2]) ++ List.replicate (5 - (lg_sl ([.ref (ad p0), .int p1, .int p2])).length) Slot.unset).toArray = ls at hl ⊢
  exact bm_J7_copyOfRangeByte_39247 p0 p1 p2 hk_p0 r c_G c_P c_U c_V c_X c_O c_kd c_ln c_cnt uc us hr hx hb hml hown hts hA hK hW hT hP hD hS hl (fun pc ls rz c_Gz c_Pz c_Uz c_Vz c_Xz c_Oz c_kdz c_lnz c_cntz adz ws H locs he hkq hd hE hW hT hP hD hS => by cases he; exact W.aret (v := .ref (adz r)) hx hb hrt (Or.inr ⟨_, rfl⟩) (Or.inr ⟨_, rfl⟩) (fun t ht hW9 => ⟨⟨(ws, adz), adz r, rfl, ⟨hW, hT, hkq, hE⟩, rfl, by rw [ht]; exact hP, va_K.moved hW9.alike hK, hD⟩, hS.F ht⟩) hS.2.2 hd)
set_option maxHeartbeats 4000000 in
set_option maxRecDepth 100000 in
theorem bm_J7_copyOfRange_39247 {p : Program} {l : Launch} {e : Env} {s : State} {m : MethodId} {args : Array Value} {below : List Frame} {meth : Method} {c : Code} {Q : State → Prop} {A : Nat → Prop} {dC : Nat → ClassId} {dI : Nat → Nat → Nat} {kk : Nat → ClassId} {ad : Nat → Nat} {ws : va_W} {G : Nat → Nat → Int32} {P : Nat → Nat → Option Nat} {U : Nat → Nat → Int64} {V : Nat → Nat → Nat → Int32} {X : Nat → Nat → Nat → Int64} {O : Nat → Nat → Nat → Option Nat} {kd : Nat → Nat} {ln : Nat → Nat} {cnt : Nat} {H : Heap} {locs : List Loc} {ls : Array Slot} (p0 : Nat) (p1 : Int32) (p2 : Int32) (hk_p0 : kd p0 = 100) (r : Nat) (c_G : Nat → Nat → Int32) (c_P : Nat → Nat → Option Nat) (c_U : Nat → Nat → Int64) (c_V : Nat → Nat → Nat → Int32) (c_X : Nat → Nat → Nat → Int64) (c_O : Nat → Nat → Nat → Option Nat) (c_kd : Nat → Nat) (c_ln : Nat → Nat) (c_cnt : Nat) (uc us : Nat) (hr : f_J7_copyOfRange_39247 G P U V X O kd ln cnt p0 p1 p2 = some ((r, c_G, c_P, c_U, c_V, c_X, c_O, c_kd, c_ln, c_cnt), uc, us)) (hx : p.tables.exec = Jvm.exec) (hb : c.code = cJ7_copyOfRange_39247) (hml : c.maxLocals = 3) (hown : s.vm.findClass RJ7 = some m.cls) (hts : ∀ w ∈ vmJ7_copyOfRange_39247, w.before args s = true) (hA : ∀ q : Nat, s.heap.size ≤ q → A q) (hK : va_K (dC, dI) vwCl (cT kk) s) (hW : LW ws ad kk kd ln G P U V X O) (hT : TYP kd P O (V 0) cnt) (hP : va_P (dC, dI) vwCl ws H) (hD : va_D A ws) (hS : va_S A s.heap H locs) (hl : lv_has ls 3 [(0, .ref (ad p0)), (1, .int p1), (2, .int p2)])
    (K : ∀ (pc : Nat) (ls : Array Slot) (rz : Nat) (c_Gz : Nat → Nat → Int32) (c_Pz : Nat → Nat → Option Nat) (c_Uz : Nat → Nat → Int64) (c_Vz : Nat → Nat → Nat → Int32) (c_Xz : Nat → Nat → Nat → Int64) (c_Oz : Nat → Nat → Nat → Option Nat) (c_kdz : Nat → Nat) (c_lnz : Nat → Nat) (c_cntz : Nat) (adz : Nat → Nat) (ws : va_W) (H : Heap) (locs : List Loc), some (rz, c_Gz, c_Pz, c_Uz, c_Vz, c_Xz, c_Oz, c_kdz, c_lnz, c_cntz) = some (r, c_G, c_P, c_U, c_V, c_X, c_O, c_kd, c_ln, c_cnt) → c_kdz rz = 100 → decode cJ7_copyOfRange_39247 pc = .ok (.areturn, 1) → adEx kd ad c_kdz adz → LW ws adz kk c_kdz c_lnz c_Gz c_Pz c_Uz c_Vz c_Xz c_Oz → TYP c_kdz c_Pz c_Oz (c_Vz 0) c_cntz → va_P (dC, dI) vwCl ws H → va_D A ws → va_S A s.heap H locs → W p l e ({ frames := 4, cells := uc, slots := us, locals := 144 } : Room) s m args below meth c H locs uc us Q (F0 m pc ls [.ref (adz rz)])) : W p l e ({ frames := 4, cells := uc, slots := us, locals := 144 } : Room) s m args below meth c H locs 0 0 Q (F0 m 0 ls []) := by
  have hu1 : 0 + uc = uc := Nat.zero_add _
  have hu2 : 0 + us = us := Nat.zero_add _
  have hE : adEx kd ad kd ad := ⟨fun _ _ => rfl, fun _ _ => rfl⟩
  unfold f_J7_copyOfRange_39247 at hr
  refine lv_iload_n hx hb dJ7_copyOfRange_39247_0 rfl (lv_at hl 1 rfl) ?_
  replace hr := jnS hr
  obtain ⟨j10, hj10, hr⟩ := hr
  have Jj10 : ∀ (ws : va_W) (H : Heap) (locs : List Loc) (ls : Array Slot) (cc cs u1 u2 : Nat), j10 () = some ((r, c_G, c_P, c_U, c_V, c_X, c_O, c_kd, c_ln, c_cnt), u1, u2) → cc + u1 = uc → cs + u2 = us → adEx kd ad kd ad → LW ws ad kk kd ln G P U V X O → TYP kd P O (V 0) cnt → va_P (dC, dI) vwCl ws H → va_D A ws → va_S A s.heap H locs → lv_has ls 3 [(0, .ref (ad p0)), (1, .int p1), (2, .int p2)] → W p l e ({ frames := 4, cells := uc, slots := us, locals := 144 } : Room) s m args below meth c H locs cc cs Q (F0 m 10 ls []) := by
    intro ws H locs ls cc cs u1 u2 hr hu1 hu2 hE hW hT hP hD hS hl
    rw [hj10] at hr
    refine lv_aload_n hx hb dJ7_copyOfRange_39247_10 rfl (lv_at hl 0 rfl) ?_
    refine lv_iload_n hx hb dJ7_copyOfRange_39247_11 rfl (lv_at hl 1 rfl) ?_
    refine lv_iload_n hx hb dJ7_copyOfRange_39247_12 rfl (lv_at hl 2 rfl) ?_
    replace hr := bA10S hr
    obtain ⟨r13, c13_G, c13_P, c13_U, c13_V, c13_X, c13_O, c13_kd, c13_ln, c13_cnt, zv1, zv2, zw1, zw2, hc13, hr, hq1, hq2⟩ := hr
    have hFc := fr_all hD hS hA
    refine va_callr (va_runS (As := [.ref (ad p0), .int p1, .int p2]) (rest := []) ⟨hx, hb, hml, hown, hts⟩ (m_J7_copyOfRangeByte_39247 l dC dI kk ad H.size ws G P U V X O kd ln cnt p0 p1 p2 hk_p0 hW hT r13 c13_G c13_P c13_U c13_V c13_X c13_O c13_kd c13_ln c13_cnt zv1 zv2 hc13) (va_cwS 3 hts gc_RJ7_J7_copyOfRangeByte_39247_339 rfl rfl rfl (by decide +kernel) ⟨Nat.le_of_ble_eq_true rfl, Nat.le_of_ble_eq_true rfl⟩) ⟨fun a U g mk q => by obtain ⟨q0, q1, qP, qK, qD⟩ := q; exact ⟨q0, q1, qP, va_K.moved (u := U) (U := U.calling g mk a) (Vm.Alike.refl U.vm) qK, qD⟩, fun U hU hW => ⟨rfl, by rw [hU], by rw [hU]; exact hP, va_K.moved hW.alike hK, hD.weaken (fun _ _ _ _ => trivial)⟩⟩ rfl rfl hl.1 rfl (lv_room (Nat.le_of_ble_eq_true rfl)) dJ7_copyOfRange_39247_13 ⟨(by show _ ≤ uc; omega), (by show _ ≤ us; omega)⟩) hS (fun q _ h => hFc q h) hFc (fun w1 ra13 t H1 locs ht hvm hw hB hz1 hk1 hS => ?_)
    obtain ⟨w1, ad13_1⟩ := w1
    dsimp only at hw hB
    obtain ⟨hW, hT, hkr13, hE2⟩ := hw
    obtain ⟨hra, hP1, hK1, hD1⟩ := hB
    subst hra
    rw [ht] at hP1
    obtain ⟨hP, hD⟩ := jn_all (w1 := w1) hFc hP1 hD1
    replace hP : va_P (dC, dI) vwCl w1 H1 := hP
    replace hD : va_D A w1 := hD
    clear hFc hP1 hK1 hD1 hk1 hz1 ht hvm
    generalize H1 = H at hP hS ⊢
    have ea_p0 : ad p0 = ad13_1 p0 := (hE2.1 p0 (by rw [hk_p0]; decide)).symm
    have hk1_p0 := (hE2.2 p0 (by rw [hk_p0]; decide)).trans hk_p0
    rw [ea_p0] at hl
    clear ea_p0
    replace hE := adE hE hE2
    clear hE2
    obtain ⟨ccn2, eccn2⟩ : ∃ y : Nat, y = (cc + zv1) := ⟨_, rfl⟩
    obtain ⟨csn2, ecsn2⟩ : ∃ y : Nat, y = (cs + zv2) := ⟨_, rfl⟩
    refine W.widen (k := ccn2) (n := csn2) (Nat.le_of_eq eccn2.symm) (Nat.le_of_eq ecsn2.symm) ?_
    replace hu1 : ccn2 + zw1 = uc := by omega
    replace hu2 : csn2 + zw2 = us := by omega
    clear eccn2 ecsn2
    replace hr := retS hr
    obtain ⟨hr, hv1, hv2⟩ := hr
    refine W.widen (k := uc) (n := us) (by omega) (by omega) ?_
    exact K 16 ls _ _ _ _ _ _ _ _ _ _ ad13_1 w1 H _ hr hkr13 dJ7_copyOfRange_39247_16 hE hW hT hP hD hS
  refine lv_if_ne (tgt := 10) hx hb dJ7_copyOfRange_39247_1 (by decide) (fun c1 => ?_) (fun c1 => ?_)
  · replace hr := iteF c1 hr
    exact Jj10 ws H _ ls 0 0 _ _ hr hu1 hu2 hE hW hT hP hD hS (lv_sub hl [0, 1, 2] rfl)
  · replace hr := iteT c1 hr
    refine lv_iload_n hx hb dJ7_copyOfRange_39247_4 rfl (lv_at hl 2 rfl) ?_
    refine lv_aload_n hx hb dJ7_copyOfRange_39247_5 rfl (lv_at hl 0 rfl) ?_
    obtain ⟨i3, hi3⟩ := hW.v0 hk_p0
    refine va_alen (v := (Int32.ofNat (ln p0))) hx hb hK hP i3 0 hi3 rfl rfl dJ7_copyOfRange_39247_6 ?_
    refine lv_icmp_eq (tgt := 17) hx hb dJ7_copyOfRange_39247_7 (by decide) (fun c7 => ?_) (fun c7 => ?_)
    · replace hr := iteT c7 hr
      exact nomatch hr
    · replace hr := iteF c7 hr
      exact Jj10 ws H _ ls 0 0 _ _ hr hu1 hu2 hE hW hT hP hD hS (lv_sub hl [0, 1, 2] rfl)
set_option maxHeartbeats 4000000 in
set_option maxRecDepth 100000 in
theorem m_J7_copyOfRange_39247 (l : Launch) (dC : Nat → ClassId) (dI : Nat → Nat → Nat) (kk : Nat → ClassId) (ad : Nat → Nat) (sz : Nat) (ws : va_W) (G : Nat → Nat → Int32) (P : Nat → Nat → Option Nat) (U : Nat → Nat → Int64) (V : Nat → Nat → Nat → Int32) (X : Nat → Nat → Nat → Int64) (O : Nat → Nat → Nat → Option Nat) (kd : Nat → Nat) (ln : Nat → Nat) (cnt : Nat) (p0 : Nat) (p1 : Int32) (p2 : Int32) (hk_p0 : kd p0 = 100) (hW : LW ws ad kk kd ln G P U V X O) (hT : TYP kd P O (V 0) cnt) (r : Nat) (c_G : Nat → Nat → Int32) (c_P : Nat → Nat → Option Nat) (c_U : Nat → Nat → Int64) (c_V : Nat → Nat → Nat → Int32) (c_X : Nat → Nat → Nat → Int64) (c_O : Nat → Nat → Nat → Option Nat) (c_kd : Nat → Nat) (c_ln : Nat → Nat) (c_cnt : Nat) (uc us : Nat) (hr : f_J7_copyOfRange_39247 G P U V X O kd ln cnt p0 p1 p2 = some ((r, c_G, c_P, c_U, c_V, c_X, c_O, c_kd, c_ln, c_cnt), uc, us)) : Met l yJ7_copyOfRange_39247 vmJ7_copyOfRange_39247 ({ frames := 4, cells := uc, slots := us, locals := 144 } : Room) (va_Pc [.ref (ad p0), .int p1, .int p2] (fun U => U.heap.size = sz ∧ va_P (dC, dI) vwCl ws U.heap ∧ va_K (dC, dI) vwCl (cT kk) U ∧ va_D (fun _ => True) ws)) (va_Qr (fun (x : (va_W × (Nat → Nat))) => LW x.1 x.2 kk c_kd c_ln c_G c_P c_U c_V c_X c_O ∧ TYP c_kd c_P c_O (c_V 0) c_cnt ∧ c_kd r = 100 ∧ adEx kd ad c_kd x.2) (fun x ra t => ra = x.2 r ∧ va_P (dC, dI) vwCl x.1 t.heap ∧ va_K (dC, dI) vwCl (cT kk) t ∧ va_D (va_A ws sz) x.1) (va_A ws sz)) uc us (va_A ws sz) := by
  refine Met.ofW (cc := cJ7_copyOfRange_39247) (maxL := 3) (ret := (some (.array .byte))) (by decide) rfl ?_
  intro p e s m args below meth c s₁ B hml hv
  obtain ⟨rfl, hsz, hP, hK, hD0⟩ := hv
  have hx := B.exec
  have hb := B.bytes
  have hrt := B.returns
  have hts := atoms_spec (ws := vmJ7_copyOfRange_39247) B.pre
  have hown : s.vm.findClass RJ7 = some m.cls := findClass_of_methodNamed B.named
  subst hsz
  have hD := hD0.self (sz := s.heap.size)
  generalize hAe : va_A ws s.heap.size = A at hD ⊢
  have hA : ∀ q : Nat, s.heap.size ≤ q → A q := fun q h => by rw [← hAe]; exact Or.inr h
  have hS : va_S A s.heap s.heap [] := va_S.rf
  have hl := lv_entry ([.ref (ad p0), .int p1, .int p2]) (n := 3) (Nat.le_of_ble_eq_true rfl)
  rw [lg_entry_eq]
  generalize (lg_sl ([.ref (ad p0), .int p1, .int p2]) ++ List.replicate (3 - (lg_sl ([.ref (ad p0), .int p1, .int p2])).length) Slot.unset).toArray = ls at hl ⊢
  exact bm_J7_copyOfRange_39247 p0 p1 p2 hk_p0 r c_G c_P c_U c_V c_X c_O c_kd c_ln c_cnt uc us hr hx hb hml hown hts hA hK hW hT hP hD hS hl (fun pc ls rz c_Gz c_Pz c_Uz c_Vz c_Xz c_Oz c_kdz c_lnz c_cntz adz ws H locs he hkq hd hE hW hT hP hD hS => by cases he; exact W.aret (v := .ref (adz r)) hx hb hrt (Or.inr ⟨_, rfl⟩) (Or.inr ⟨_, rfl⟩) (fun t ht hW9 => ⟨⟨(ws, adz), adz r, rfl, ⟨hW, hT, hkq, hE⟩, rfl, by rw [ht]; exact hP, va_K.moved hW9.alike hK, hD⟩, hS.F ht⟩) hS.2.2 hd)
set_option maxHeartbeats 4000000 in
set_option maxRecDepth 100000 in
theorem bm_X4_letters {p : Program} {l : Launch} {e : Env} {s : State} {m : MethodId} {args : Array Value} {below : List Frame} {meth : Method} {c : Code} {Q : State → Prop} {A : Nat → Prop} {dC : Nat → ClassId} {dI : Nat → Nat → Nat} {kk : Nat → ClassId} {ad : Nat → Nat} {ws : va_W} {G : Nat → Nat → Int32} {P : Nat → Nat → Option Nat} {U : Nat → Nat → Int64} {V : Nat → Nat → Nat → Int32} {X : Nat → Nat → Nat → Int64} {O : Nat → Nat → Nat → Option Nat} {kd : Nat → Nat} {ln : Nat → Nat} {cnt : Nat} {H : Heap} {locs : List Loc} {ls : Array Slot} (this : Nat) (hk_this : kd this = 5) (r : Nat) (c_G : Nat → Nat → Int32) (c_P : Nat → Nat → Option Nat) (c_U : Nat → Nat → Int64) (c_V : Nat → Nat → Nat → Int32) (c_X : Nat → Nat → Nat → Int64) (c_O : Nat → Nat → Nat → Option Nat) (c_kd : Nat → Nat) (c_ln : Nat → Nat) (c_cnt : Nat) (uc us : Nat) (hr : f_X4_letters G P U V X O kd ln cnt this = some ((r, c_G, c_P, c_U, c_V, c_X, c_O, c_kd, c_ln, c_cnt), uc, us)) (hx : p.tables.exec = Jvm.exec) (hb : c.code = cX4_letters) (hml : c.maxLocals = 1) (hown : s.vm.findClass RX4 = some m.cls) (hts : ∀ w ∈ vmX4_letters, w.before args s = true) (hA : ∀ q : Nat, s.heap.size ≤ q → A q) (hK : va_K (dC, dI) vwCl (cT kk) s) (hW : LW ws ad kk kd ln G P U V X O) (hT : TYP kd P O (V 0) cnt) (hP : va_P (dC, dI) vwCl ws H) (hD : va_D A ws) (hS : va_S A s.heap H locs) (hl : lv_has ls 1 [(0, .ref (ad this))])
    (K : ∀ (pc : Nat) (ls : Array Slot) (rz : Nat) (c_Gz : Nat → Nat → Int32) (c_Pz : Nat → Nat → Option Nat) (c_Uz : Nat → Nat → Int64) (c_Vz : Nat → Nat → Nat → Int32) (c_Xz : Nat → Nat → Nat → Int64) (c_Oz : Nat → Nat → Nat → Option Nat) (c_kdz : Nat → Nat) (c_lnz : Nat → Nat) (c_cntz : Nat) (adz : Nat → Nat) (ws : va_W) (H : Heap) (locs : List Loc), some (rz, c_Gz, c_Pz, c_Uz, c_Vz, c_Xz, c_Oz, c_kdz, c_lnz, c_cntz) = some (r, c_G, c_P, c_U, c_V, c_X, c_O, c_kd, c_ln, c_cnt) → c_kdz rz = 100 → decode cX4_letters pc = .ok (.areturn, 1) → adEx kd ad c_kdz adz → LW ws adz kk c_kdz c_lnz c_Gz c_Pz c_Uz c_Vz c_Xz c_Oz → TYP c_kdz c_Pz c_Oz (c_Vz 0) c_cntz → va_P (dC, dI) vwCl ws H → va_D A ws → va_S A s.heap H locs → W p l e ({ frames := 5, cells := uc, slots := us, locals := 166 } : Room) s m args below meth c H locs uc us Q (F0 m pc ls [.ref (adz rz)])) : W p l e ({ frames := 5, cells := uc, slots := us, locals := 166 } : Room) s m args below meth c H locs 0 0 Q (F0 m 0 ls []) := by
  have hu1 : 0 + uc = uc := Nat.zero_add _
  have hu2 : 0 + us = us := Nat.zero_add _
  have hE : adEx kd ad kd ad := ⟨fun _ _ => rfl, fun _ _ => rfl⟩
  unfold f_X4_letters at hr
  refine lv_aload_n hx hb dX4_letters_0 rfl (lv_at hl 0 rfl) ?_
  obtain ⟨i1, hi1⟩ := hW.o4 hk_this
  replace hr := nnS hr
  obtain ⟨a1, hn1, hr⟩ := hr
  have hk_a1 : kd a1 = 100 := hT.1 82 _ _ hn1
  refine va_get (D := (dC, dI)) (ci := 4) (v := .ref (ad a1)) (C := RX4) (T := TX4) (N := 9) hx hb hts inX4 hown hK hP i1 hi1 rfl 2 (by decide) (hts (.fieldLink RX4 18 "SpellTurner$Reader" "text" "[B") ic_352) (fun _ h9 => h9) (congrArg (fun o => some (va_re ad o)) hn1) dX4_letters_1 ?_
  refine lv_aload_n hx hb dX4_letters_4 rfl (lv_at hl 0 rfl) ?_
  obtain ⟨i2, hi2⟩ := hW.o4 hk_this
  refine va_get (D := (dC, dI)) (ci := 4) (v := .int ((G 87) this)) (C := RX4) (T := TX4) (N := 9) hx hb hts inX4 hown hK hP i2 hi2 rfl 7 (by decide) (hts (.fieldLink RX4 34 "SpellTurner$Reader" "start" "I") ic_349) (fun _ h9 => h9) rfl dX4_letters_5 ?_
  refine lv_aload_n hx hb dX4_letters_8 rfl (lv_at hl 0 rfl) ?_
  obtain ⟨i3, hi3⟩ := hW.o4 hk_this
  refine va_get (D := (dC, dI)) (ci := 4) (v := .int ((G 87) this)) (C := RX4) (T := TX4) (N := 9) hx hb hts inX4 hown hK hP i3 hi3 rfl 7 (by decide) (hts (.fieldLink RX4 34 "SpellTurner$Reader" "start" "I") ic_349) (fun _ h9 => h9) rfl dX4_letters_9 ?_
  refine lv_aload_n hx hb dX4_letters_12 rfl (lv_at hl 0 rfl) ?_
  obtain ⟨i4, hi4⟩ := hW.o4 hk_this
  refine va_get (D := (dC, dI)) (ci := 4) (v := .int ((G 88) this)) (C := RX4) (T := TX4) (N := 9) hx hb hts inX4 hown hK hP i4 hi4 rfl 8 (by decide) (hts (.fieldLink RX4 37 "SpellTurner$Reader" "length" "I") ic_351) (fun _ h9 => h9) rfl dX4_letters_13 ?_
  refine lv_iadd hx hb dX4_letters_16 ?_
  replace hr := bA10S hr
  obtain ⟨r17, c17_G, c17_P, c17_U, c17_V, c17_X, c17_O, c17_kd, c17_ln, c17_cnt, zv1, zv2, zw1, zw2, hc17, hr, hq1, hq2⟩ := hr
  have hFc := fr_all hD hS hA
  refine va_callr (va_runS (As := [.ref (ad a1), .int ((G 87) this), .int (((G 87) this) + ((G 88) this))]) (rest := []) ⟨hx, hb, hml, hown, hts⟩ (m_J7_copyOfRange_39247 l dC dI kk ad H.size ws G P U V X O kd ln cnt a1 ((G 87) this) (((G 87) this) + ((G 88) this)) hk_a1 hW hT r17 c17_G c17_P c17_U c17_V c17_X c17_O c17_kd c17_ln c17_cnt zv1 zv2 hc17) (va_cwS 3 hts gc_RX4_J7_copyOfRange_39247_171 rfl rfl rfl (by decide +kernel) ⟨Nat.le_of_ble_eq_true rfl, Nat.le_of_ble_eq_true rfl⟩) ⟨fun a U g mk q => by obtain ⟨q0, q1, qP, qK, qD⟩ := q; exact ⟨q0, q1, qP, va_K.moved (u := U) (U := U.calling g mk a) (Vm.Alike.refl U.vm) qK, qD⟩, fun U hU hW => ⟨rfl, by rw [hU], by rw [hU]; exact hP, va_K.moved hW.alike hK, hD.weaken (fun _ _ _ _ => trivial)⟩⟩ rfl rfl hl.1 rfl (lv_room (Nat.le_of_ble_eq_true rfl)) dX4_letters_17 ⟨(by show _ ≤ uc; omega), (by show _ ≤ us; omega)⟩) hS (fun q _ h => hFc q h) hFc (fun w5 ra17 t H1 locs ht hvm hw hB hz1 hk1 hS => ?_)
  obtain ⟨w5, ad17_5⟩ := w5
  dsimp only at hw hB
  obtain ⟨hW, hT, hkr17, hE2⟩ := hw
  obtain ⟨hra, hP1, hK1, hD1⟩ := hB
  subst hra
  rw [ht] at hP1
  obtain ⟨hP, hD⟩ := jn_all (w1 := w5) hFc hP1 hD1
  replace hP : va_P (dC, dI) vwCl w5 H1 := hP
  replace hD : va_D A w5 := hD
  clear hFc hP1 hK1 hD1 hk1 hz1 ht hvm
  generalize H1 = H at hP hS ⊢
  have ea_this : ad this = ad17_5 this := (hE2.1 this (by rw [hk_this]; decide)).symm
  have hk5_this := (hE2.2 this (by rw [hk_this]; decide)).trans hk_this
  rw [ea_this] at hl
  clear ea_this
  replace hE := adE hE hE2
  clear hE2
  obtain ⟨ccn6, eccn6⟩ : ∃ y : Nat, y = (0 + zv1) := ⟨_, rfl⟩
  obtain ⟨csn6, ecsn6⟩ : ∃ y : Nat, y = (0 + zv2) := ⟨_, rfl⟩
  refine W.widen (k := ccn6) (n := csn6) (Nat.le_of_eq eccn6.symm) (Nat.le_of_eq ecsn6.symm) ?_
  replace hu1 : ccn6 + zw1 = uc := by omega
  replace hu2 : csn6 + zw2 = us := by omega
  clear eccn6 ecsn6
  replace hr := retS hr
  obtain ⟨hr, hv1, hv2⟩ := hr
  refine W.widen (k := uc) (n := us) (by omega) (by omega) ?_
  exact K 20 ls _ _ _ _ _ _ _ _ _ _ ad17_5 w5 H _ hr hkr17 dX4_letters_20 hE hW hT hP hD hS
set_option maxHeartbeats 4000000 in
set_option maxRecDepth 100000 in
theorem m_X4_letters (l : Launch) (dC : Nat → ClassId) (dI : Nat → Nat → Nat) (kk : Nat → ClassId) (ad : Nat → Nat) (sz : Nat) (ws : va_W) (G : Nat → Nat → Int32) (P : Nat → Nat → Option Nat) (U : Nat → Nat → Int64) (V : Nat → Nat → Nat → Int32) (X : Nat → Nat → Nat → Int64) (O : Nat → Nat → Nat → Option Nat) (kd : Nat → Nat) (ln : Nat → Nat) (cnt : Nat) (this : Nat) (hk_this : kd this = 5) (hW : LW ws ad kk kd ln G P U V X O) (hT : TYP kd P O (V 0) cnt) (r : Nat) (c_G : Nat → Nat → Int32) (c_P : Nat → Nat → Option Nat) (c_U : Nat → Nat → Int64) (c_V : Nat → Nat → Nat → Int32) (c_X : Nat → Nat → Nat → Int64) (c_O : Nat → Nat → Nat → Option Nat) (c_kd : Nat → Nat) (c_ln : Nat → Nat) (c_cnt : Nat) (uc us : Nat) (hr : f_X4_letters G P U V X O kd ln cnt this = some ((r, c_G, c_P, c_U, c_V, c_X, c_O, c_kd, c_ln, c_cnt), uc, us)) : Met l yX4_letters vmX4_letters ({ frames := 5, cells := uc, slots := us, locals := 166 } : Room) (va_Pc [.ref (ad this)] (fun U => U.heap.size = sz ∧ va_P (dC, dI) vwCl ws U.heap ∧ va_K (dC, dI) vwCl (cT kk) U ∧ va_D (fun _ => True) ws)) (va_Qr (fun (x : (va_W × (Nat → Nat))) => LW x.1 x.2 kk c_kd c_ln c_G c_P c_U c_V c_X c_O ∧ TYP c_kd c_P c_O (c_V 0) c_cnt ∧ c_kd r = 100 ∧ adEx kd ad c_kd x.2) (fun x ra t => ra = x.2 r ∧ va_P (dC, dI) vwCl x.1 t.heap ∧ va_K (dC, dI) vwCl (cT kk) t ∧ va_D (va_A ws sz) x.1) (va_A ws sz)) uc us (va_A ws sz) := by
  refine Met.ofW (cc := cX4_letters) (maxL := 1) (ret := (some (.array .byte))) (by decide) rfl ?_
  intro p e s m args below meth c s₁ B hml hv
  obtain ⟨rfl, hsz, hP, hK, hD0⟩ := hv
  have hx := B.exec
  have hb := B.bytes
  have hrt := B.returns
  have hts := atoms_spec (ws := vmX4_letters) B.pre
  have hown : s.vm.findClass RX4 = some m.cls := findClass_of_methodNamed B.named
  subst hsz
  have hD := hD0.self (sz := s.heap.size)
  generalize hAe : va_A ws s.heap.size = A at hD ⊢
  have hA : ∀ q : Nat, s.heap.size ≤ q → A q := fun q h => by rw [← hAe]; exact Or.inr h
  have hS : va_S A s.heap s.heap [] := va_S.rf
  have hl := lv_entry ([.ref (ad this)]) (n := 1) (Nat.le_of_ble_eq_true rfl)
  rw [lg_entry_eq]
  generalize (lg_sl ([.ref (ad this)]) ++ List.replicate (1 - (lg_sl ([.ref (ad this)])).length) Slot.unset).toArray = ls at hl ⊢
  exact bm_X4_letters this hk_this r c_G c_P c_U c_V c_X c_O c_kd c_ln c_cnt uc us hr hx hb hml hown hts hA hK hW hT hP hD hS hl (fun pc ls rz c_Gz c_Pz c_Uz c_Vz c_Xz c_Oz c_kdz c_lnz c_cntz adz ws H locs he hkq hd hE hW hT hP hD hS => by cases he; exact W.aret (v := .ref (adz r)) hx hb hrt (Or.inr ⟨_, rfl⟩) (Or.inr ⟨_, rfl⟩) (fun t ht hW9 => ⟨⟨(ws, adz), adz r, rfl, ⟨hW, hT, hkq, hE⟩, rfl, by rw [ht]; exact hP, va_K.moved hW9.alike hK, hD⟩, hS.F ht⟩) hS.2.2 hd)
set_option maxHeartbeats 4000000 in
set_option maxRecDepth 100000 in
theorem bm_X4_readSide {p : Program} {l : Launch} {e : Env} {s : State} {m : MethodId} {args : Array Value} {below : List Frame} {meth : Method} {c : Code} {Q : State → Prop} {A : Nat → Prop} {dC : Nat → ClassId} {dI : Nat → Nat → Nat} {kk : Nat → ClassId} {ad : Nat → Nat} {ws : va_W} {G : Nat → Nat → Int32} {P : Nat → Nat → Option Nat} {U : Nat → Nat → Int64} {V : Nat → Nat → Nat → Int32} {X : Nat → Nat → Nat → Int64} {O : Nat → Nat → Nat → Option Nat} {kd : Nat → Nat} {ln : Nat → Nat} {cnt : Nat} {H : Heap} {locs : List Loc} {ls : Array Slot} (this : Nat) (p0 : Nat) (hk_this : kd this = 5) (hk_p0 : kd p0 = 2) (c_G : Nat → Nat → Int32) (c_P : Nat → Nat → Option Nat) (c_U : Nat → Nat → Int64) (c_V : Nat → Nat → Nat → Int32) (c_X : Nat → Nat → Nat → Int64) (c_O : Nat → Nat → Nat → Option Nat) (c_kd : Nat → Nat) (c_ln : Nat → Nat) (c_cnt : Nat) (uc us : Nat) (hr : f_X4_readSide G P U V X O kd ln cnt this p0 = some ((c_G, c_P, c_U, c_V, c_X, c_O, c_kd, c_ln, c_cnt), uc, us)) (hx : p.tables.exec = Jvm.exec) (hb : c.code = cX4_readSide) (hml : c.maxLocals = 2) (hown : s.vm.findClass RX4 = some m.cls) (hts : ∀ w ∈ vmX4_readSide, w.before args s = true) (hA : ∀ q : Nat, s.heap.size ≤ q → A q) (hK : va_K (dC, dI) vwCl (cT kk) s) {adK adV : Nat → Nat} (hSE : SE adK adV A s) (hW : LW ws ad kk kd ln G P U V X O) (hT : TYP kd P O (V 0) cnt) (hP : va_P (dC, dI) vwCl ws H) (hD : va_D A ws) (hS : va_S A s.heap H locs) (hl : lv_has ls 2 [(0, .ref (ad this)), (1, .ref (ad p0))])
    (K : ∀ (pc : Nat) (ls : Array Slot) (c_Gz : Nat → Nat → Int32) (c_Pz : Nat → Nat → Option Nat) (c_Uz : Nat → Nat → Int64) (c_Vz : Nat → Nat → Nat → Int32) (c_Xz : Nat → Nat → Nat → Int64) (c_Oz : Nat → Nat → Nat → Option Nat) (c_kdz : Nat → Nat) (c_lnz : Nat → Nat) (c_cntz : Nat) (adz : Nat → Nat) (ws : va_W) (H : Heap) (locs : List Loc), some (c_Gz, c_Pz, c_Uz, c_Vz, c_Xz, c_Oz, c_kdz, c_lnz, c_cntz) = some (c_G, c_P, c_U, c_V, c_X, c_O, c_kd, c_ln, c_cnt) → decode cX4_readSide pc = .ok (.return_, 1) → adEx kd ad c_kdz adz → LW ws adz kk c_kdz c_lnz c_Gz c_Pz c_Uz c_Vz c_Xz c_Oz → TYP c_kdz c_Pz c_Oz (c_Vz 0) c_cntz → va_P (dC, dI) vwCl ws H → va_D A ws → va_S A s.heap H locs → W p l e ({ frames := 7, cells := uc, slots := us, locals := 362 } : Room) s m args below meth c H locs uc us Q (F0 m pc ls [])) : W p l e ({ frames := 7, cells := uc, slots := us, locals := 362 } : Room) s m args below meth c H locs 0 0 Q (F0 m 0 ls []) := by
  have hu1 : 0 + uc = uc := Nat.zero_add _
  have hu2 : 0 + us = us := Nat.zero_add _
  have hE : adEx kd ad kd ad := ⟨fun _ _ => rfl, fun _ _ => rfl⟩
  unfold f_X4_readSide at hr
  refine lv_aload_n hx hb dX4_readSide_0 rfl (lv_at hl 0 rfl) ?_
  refine va_ldcS hx hb hown hSE.r4 dX4_readSide_1 ?_
  replace hr := b1S hr
  obtain ⟨r3z, hc3, hr⟩ := hr
  have hFc := fr_all hD hS hA
  obtain ⟨i1, hi1⟩ := hW.o4 hk_this
  refine va_calli (va_runV (As := [.ref (adK 4)]) (rest := []) ⟨hx, hb, hml, hown, hts⟩ (m_X4_wordIs l dC dI adK adV kk ad H.size ws G P U V X O kd ln cnt this 4 hk_this (by decide) hW hT r3z hc3) (cwV 1 hts gc_RX4_X4_wordIs_51 rfl rfl rfl (by decide +kernel) ⟨Nat.le_of_ble_eq_true rfl, Nat.le_of_ble_eq_true rfl⟩) ⟨fun a U g mk q => by obtain ⟨q0, q1, qP, qK, qD, qS⟩ := q; exact ⟨q0, q1, qP, va_K.moved (u := U) (U := U.calling g mk a) (Vm.Alike.refl U.vm) qK, qD, qS.calling⟩, va_recv hK hP (ci := 4) (q0 := i1) rfl hi1, fun U hU hW => ⟨rfl, by rw [hU], by rw [hU]; exact hP, va_K.moved hW.alike hK, hD.weaken (fun _ _ _ _ => trivial), (hSE.warm hS hU hW).narrow hFc⟩⟩ rfl rfl hl.1 rfl (lv_room (Nat.le_of_ble_eq_true rfl)) dX4_readSide_3 ⟨(by show _ ≤ uc; omega), (by show _ ≤ us; omega)⟩) hS (fun q _ h => hFc q h) hFc (fun r3 w2 t H1 locs ht hvm hw hB hz1 hk1 hS => ?_)
  obtain ⟨hw0, hW, hT⟩ := hw
  replace hw0 : r3 = r3z := hw0
  subst hw0
  obtain ⟨hP1, hK1, hD1⟩ := hB
  rw [ht] at hP1
  obtain ⟨hP, hD⟩ := jn_all (w1 := w2) hFc hP1 hD1
  replace hP : va_P (dC, dI) vwCl w2 H1 := hP
  replace hD : va_D A w2 := hD
  clear hFc hP1 hK1 hD1 hk1 hz1 ht hvm
  generalize H1 = H at hP hS ⊢
  replace hr := jnS hr
  obtain ⟨j174, hj174, hr⟩ := hr
  have Jj174 : ∀ (c174_G : Nat → Nat → Int32) (c174_P : Nat → Nat → Option Nat) (c174_U : Nat → Nat → Int64) (c174_V : Nat → Nat → Nat → Int32) (c174_X : Nat → Nat → Nat → Int64) (c174_O : Nat → Nat → Nat → Option Nat) (c174_kd : Nat → Nat) (c174_ln : Nat → Nat) (c174_cnt : Nat) (ad174 : Nat → Nat) (ws : va_W) (H : Heap) (locs : List Loc) (ls : Array Slot) (cc cs u1 u2 : Nat), j174 c174_G c174_P c174_U c174_V c174_X c174_O c174_kd c174_ln c174_cnt = some ((c_G, c_P, c_U, c_V, c_X, c_O, c_kd, c_ln, c_cnt), u1, u2) → cc + u1 = uc → cs + u2 = us → adEx kd ad c174_kd ad174 → LW ws ad174 kk c174_kd c174_ln c174_G c174_P c174_U c174_V c174_X c174_O → TYP c174_kd c174_P c174_O (c174_V 0) c174_cnt → va_P (dC, dI) vwCl ws H → va_D A ws → va_S A s.heap H locs → lv_has ls 2 [] → W p l e ({ frames := 7, cells := uc, slots := us, locals := 362 } : Room) s m args below meth c H locs cc cs Q (F0 m 174 ls []) := by
    intro c174_G c174_P c174_U c174_V c174_X c174_O c174_kd c174_ln c174_cnt ad174 ws H locs ls cc cs u1 u2 hr hu1 hu2 hE hW hT hP hD hS hl
    rw [hj174] at hr
    replace hr := retS hr
    obtain ⟨hr, hv1, hv2⟩ := hr
    refine W.widen (k := uc) (n := us) (by omega) (by omega) ?_
    exact K 174 ls _ _ _ _ _ _ _ _ _ ad174 ws H _ hr dX4_readSide_174 hE hW hT hP hD hS
  refine lv_if_eq (tgt := 36) hx hb dX4_readSide_6 (by decide) (fun c6 => ?_) (fun c6 => ?_)
  · replace hr := iteT c6 hr
    refine lv_aload_n hx hb dX4_readSide_36 rfl (lv_at hl 0 rfl) ?_
    refine va_ldcS hx hb hown hSE.r5 dX4_readSide_37 ?_
    replace hr := b1S hr
    obtain ⟨r39z, hc39, hr⟩ := hr
    have hFc := fr_all hD hS hA
    obtain ⟨i3, hi3⟩ := hW.o4 hk_this
    refine va_calli (va_runV (As := [.ref (adK 5)]) (rest := []) ⟨hx, hb, hml, hown, hts⟩ (m_X4_wordIs l dC dI adK adV kk ad H.size w2 G P U V X O kd ln cnt this 5 hk_this (by decide) hW hT r39z hc39) (cwV 1 hts gc_RX4_X4_wordIs_51 rfl rfl rfl (by decide +kernel) ⟨Nat.le_of_ble_eq_true rfl, Nat.le_of_ble_eq_true rfl⟩) ⟨fun a U g mk q => by obtain ⟨q0, q1, qP, qK, qD, qS⟩ := q; exact ⟨q0, q1, qP, va_K.moved (u := U) (U := U.calling g mk a) (Vm.Alike.refl U.vm) qK, qD, qS.calling⟩, va_recv hK hP (ci := 4) (q0 := i3) rfl hi3, fun U hU hW => ⟨rfl, by rw [hU], by rw [hU]; exact hP, va_K.moved hW.alike hK, hD.weaken (fun _ _ _ _ => trivial), (hSE.warm hS hU hW).narrow hFc⟩⟩ rfl rfl hl.1 rfl (lv_room (Nat.le_of_ble_eq_true rfl)) dX4_readSide_39 ⟨(by show _ ≤ uc; omega), (by show _ ≤ us; omega)⟩) hS (fun q _ h => hFc q h) hFc (fun r39 w4 t H1 locs ht hvm hw hB hz1 hk1 hS => ?_)
    obtain ⟨hw0, hW, hT⟩ := hw
    replace hw0 : r39 = r39z := hw0
    subst hw0
    obtain ⟨hP1, hK1, hD1⟩ := hB
    rw [ht] at hP1
    obtain ⟨hP, hD⟩ := jn_all (w1 := w4) hFc hP1 hD1
    replace hP : va_P (dC, dI) vwCl w4 H1 := hP
    replace hD : va_D A w4 := hD
    clear hFc hP1 hK1 hD1 hk1 hz1 ht hvm
    generalize H1 = H at hP hS ⊢
    refine lv_if_eq (tgt := 72) hx hb dX4_readSide_42 (by decide) (fun c42 => ?_) (fun c42 => ?_)
    · replace hr := iteT c42 hr
      refine lv_aload_n hx hb dX4_readSide_72 rfl (lv_at hl 0 rfl) ?_
      refine va_ldcS hx hb hown hSE.r6 dX4_readSide_73 ?_
      replace hr := b1S hr
      obtain ⟨r75z, hc75, hr⟩ := hr
      have hFc := fr_all hD hS hA
      obtain ⟨i5, hi5⟩ := hW.o4 hk_this
      refine va_calli (va_runV (As := [.ref (adK 6)]) (rest := []) ⟨hx, hb, hml, hown, hts⟩ (m_X4_wordIs l dC dI adK adV kk ad H.size w4 G P U V X O kd ln cnt this 6 hk_this (by decide) hW hT r75z hc75) (cwV 1 hts gc_RX4_X4_wordIs_51 rfl rfl rfl (by decide +kernel) ⟨Nat.le_of_ble_eq_true rfl, Nat.le_of_ble_eq_true rfl⟩) ⟨fun a U g mk q => by obtain ⟨q0, q1, qP, qK, qD, qS⟩ := q; exact ⟨q0, q1, qP, va_K.moved (u := U) (U := U.calling g mk a) (Vm.Alike.refl U.vm) qK, qD, qS.calling⟩, va_recv hK hP (ci := 4) (q0 := i5) rfl hi5, fun U hU hW => ⟨rfl, by rw [hU], by rw [hU]; exact hP, va_K.moved hW.alike hK, hD.weaken (fun _ _ _ _ => trivial), (hSE.warm hS hU hW).narrow hFc⟩⟩ rfl rfl hl.1 rfl (lv_room (Nat.le_of_ble_eq_true rfl)) dX4_readSide_75 ⟨(by show _ ≤ uc; omega), (by show _ ≤ us; omega)⟩) hS (fun q _ h => hFc q h) hFc (fun r75 w6 t H1 locs ht hvm hw hB hz1 hk1 hS => ?_)
      obtain ⟨hw0, hW, hT⟩ := hw
      replace hw0 : r75 = r75z := hw0
      subst hw0
      obtain ⟨hP1, hK1, hD1⟩ := hB
      rw [ht] at hP1
      obtain ⟨hP, hD⟩ := jn_all (w1 := w6) hFc hP1 hD1
      replace hP : va_P (dC, dI) vwCl w6 H1 := hP
      replace hD : va_D A w6 := hD
      clear hFc hP1 hK1 hD1 hk1 hz1 ht hvm
      generalize H1 = H at hP hS ⊢
      refine lv_if_eq (tgt := 120) hx hb dX4_readSide_78 (by decide) (fun c78 => ?_) (fun c78 => ?_)
      · replace hr := iteT c78 hr
        refine lv_aload_n hx hb dX4_readSide_120 rfl (lv_at hl 0 rfl) ?_
        refine va_ldcS hx hb hown hSE.r7 dX4_readSide_121 ?_
        replace hr := b1S hr
        obtain ⟨r123z, hc123, hr⟩ := hr
        have hFc := fr_all hD hS hA
        obtain ⟨i7, hi7⟩ := hW.o4 hk_this
        refine va_calli (va_runV (As := [.ref (adK 7)]) (rest := []) ⟨hx, hb, hml, hown, hts⟩ (m_X4_wordIs l dC dI adK adV kk ad H.size w6 G P U V X O kd ln cnt this 7 hk_this (by decide) hW hT r123z hc123) (cwV 1 hts gc_RX4_X4_wordIs_51 rfl rfl rfl (by decide +kernel) ⟨Nat.le_of_ble_eq_true rfl, Nat.le_of_ble_eq_true rfl⟩) ⟨fun a U g mk q => by obtain ⟨q0, q1, qP, qK, qD, qS⟩ := q; exact ⟨q0, q1, qP, va_K.moved (u := U) (U := U.calling g mk a) (Vm.Alike.refl U.vm) qK, qD, qS.calling⟩, va_recv hK hP (ci := 4) (q0 := i7) rfl hi7, fun U hU hW => ⟨rfl, by rw [hU], by rw [hU]; exact hP, va_K.moved hW.alike hK, hD.weaken (fun _ _ _ _ => trivial), (hSE.warm hS hU hW).narrow hFc⟩⟩ rfl rfl hl.1 rfl (lv_room (Nat.le_of_ble_eq_true rfl)) dX4_readSide_123 ⟨(by show _ ≤ uc; omega), (by show _ ≤ us; omega)⟩) hS (fun q _ h => hFc q h) hFc (fun r123 w8 t H1 locs ht hvm hw hB hz1 hk1 hS => ?_)
        obtain ⟨hw0, hW, hT⟩ := hw
        replace hw0 : r123 = r123z := hw0
        subst hw0
        obtain ⟨hP1, hK1, hD1⟩ := hB
        rw [ht] at hP1
        obtain ⟨hP, hD⟩ := jn_all (w1 := w8) hFc hP1 hD1
        replace hP : va_P (dC, dI) vwCl w8 H1 := hP
        replace hD : va_D A w8 := hD
        clear hFc hP1 hK1 hD1 hk1 hz1 ht hvm
        generalize H1 = H at hP hS ⊢
        refine lv_if_eq (tgt := 168) hx hb dX4_readSide_126 (by decide) (fun c126 => ?_) (fun c126 => ?_)
        · replace hr := iteT c126 hr
          refine lv_aload_n hx hb dX4_readSide_168 rfl (lv_at hl 0 rfl) ?_
          refine lv_iconst (v := 1) hx hb dX4_readSide_169 (by decide +kernel) ?_
          replace hr := b3S hr
          obtain ⟨r170z, c170_G80, c170_G81, hc170, hr⟩ := hr
          have hFc := fr_all hD hS hA
          obtain ⟨i9, hi9⟩ := hW.o4 hk_this
          refine va_calli (va_runV (As := [.int 1]) (rest := []) ⟨hx, hb, hml, hown, hts⟩ (m_X4_blame l dC dI kk ad H.size w8 G P U V X O kd ln cnt this 1 hk_this hW hT r170z c170_G80 c170_G81 hc170) (cwV 1 hts gc_RX4_X4_blame_74 rfl rfl rfl (by decide +kernel) ⟨Nat.le_of_ble_eq_true rfl, Nat.le_of_ble_eq_true rfl⟩) ⟨fun a U g mk q => by obtain ⟨q0, q1, qP, qK, qD⟩ := q; exact ⟨q0, q1, qP, va_K.moved (u := U) (U := U.calling g mk a) (Vm.Alike.refl U.vm) qK, qD⟩, va_recv hK hP (ci := 4) (q0 := i9) rfl hi9, fun U hU hW => ⟨rfl, by rw [hU], by rw [hU]; exact hP, va_K.moved hW.alike hK, hD.weaken (fun _ _ _ _ => trivial)⟩⟩ rfl rfl hl.1 rfl (lv_room (Nat.le_of_ble_eq_true rfl)) dX4_readSide_170 ⟨(by show _ ≤ uc; omega), (by show _ ≤ us; omega)⟩) hS (fun q _ h => hFc q h) hFc (fun r170 w10 t H1 locs ht hvm hw hB hz1 hk1 hS => ?_)
          obtain ⟨hw0, hW, hT⟩ := hw
          replace hw0 : r170 = r170z := hw0
          subst hw0
          obtain ⟨hP1, hK1, hD1⟩ := hB
          rw [ht] at hP1
          obtain ⟨hP, hD⟩ := jn_all (w1 := w10) hFc hP1 hD1
          replace hP : va_P (dC, dI) vwCl w10 H1 := hP
          replace hD : va_D A w10 := hD
          clear hFc hP1 hK1 hD1 hk1 hz1 ht hvm
          generalize H1 = H at hP hS ⊢
          refine lv_pop hx hb dX4_readSide_173 rfl ?_
          exact Jj174 (va_up (va_up G 80 c170_G80) 81 c170_G81) P U V X O kd ln cnt ad w10 H _ ls 0 0 _ _ hr hu1 hu2 hE hW hT hP hD hS (lv_sub hl [] rfl)
        · replace hr := iteF c126 hr
          refine lv_aload_n hx hb dX4_readSide_129 rfl (lv_at hl 0 rfl) ?_
          refine lv_aload_n hx hb dX4_readSide_130 rfl (lv_at hl 1 rfl) ?_
          obtain ⟨i11, hi11⟩ := hW.o1 hk_p0
          replace hr := nnS hr
          obtain ⟨a131, hn131, hr⟩ := hr
          have hk_a131 : kd a131 = 100 := hT.1 23 _ _ hn131
          refine va_get (D := (dC, dI)) (ci := 1) (v := .ref (ad a131)) (C := RX1) (T := TX1) (N := 6) hx hb hts inX1 hown hK hP i11 hi11 rfl 3 (by decide) (hts (.fieldLink RX4 162 "SpellTurner$Law" "behind" "[B") ic_525) (fun _ h9 => h9) (congrArg (fun o => some (va_re ad o)) hn131) dX4_readSide_131 ?_
          obtain ⟨i12, hi12⟩ := hW.v0 hk_a131
          refine va_alen (v := (Int32.ofNat (ln a131))) hx hb hK hP i12 0 hi12 rfl rfl dX4_readSide_134 ?_
          replace hr := jnS hr
          obtain ⟨j143, hj143, hr⟩ := hr
          have Jj143 : ∀ (t143_0 : Int32) (ws : va_W) (H : Heap) (locs : List Loc) (ls : Array Slot) (cc cs u1 u2 : Nat), j143 t143_0 = some ((c_G, c_P, c_U, c_V, c_X, c_O, c_kd, c_ln, c_cnt), u1, u2) → cc + u1 = uc → cs + u2 = us → adEx kd ad kd ad → LW ws ad kk kd ln G P U V X O → TYP kd P O (V 0) cnt → va_P (dC, dI) vwCl ws H → va_D A ws → va_S A s.heap H locs → lv_has ls 2 [(0, .ref (ad this)), (1, .ref (ad p0))] → W p l e ({ frames := 7, cells := uc, slots := us, locals := 362 } : Room) s m args below meth c H locs cc cs Q (F0 m 143 ls [.int t143_0, .ref (ad this)]) := by
            intro t143_0 ws H locs ls cc cs u1 u2 hr hu1 hu2 hE hW hT hP hD hS hl
            rw [hj143] at hr
            replace hr := b3S hr
            obtain ⟨r143z, c143_G80, c143_G81, hc143, hr⟩ := hr
            have hFc := fr_all hD hS hA
            obtain ⟨i13, hi13⟩ := hW.o4 hk_this
            refine va_calli (va_runV (As := [.int t143_0]) (rest := []) ⟨hx, hb, hml, hown, hts⟩ (m_X4_isNew l dC dI kk ad H.size ws G P U V X O kd ln cnt this t143_0 hk_this hW hT r143z c143_G80 c143_G81 hc143) (cwV 1 hts gc_RX4_X4_isNew_147 rfl rfl rfl (by decide +kernel) ⟨Nat.le_of_ble_eq_true rfl, Nat.le_of_ble_eq_true rfl⟩) ⟨fun a U g mk q => by obtain ⟨q0, q1, qP, qK, qD⟩ := q; exact ⟨q0, q1, qP, va_K.moved (u := U) (U := U.calling g mk a) (Vm.Alike.refl U.vm) qK, qD⟩, va_recv hK hP (ci := 4) (q0 := i13) rfl hi13, fun U hU hW => ⟨rfl, by rw [hU], by rw [hU]; exact hP, va_K.moved hW.alike hK, hD.weaken (fun _ _ _ _ => trivial)⟩⟩ rfl rfl hl.1 rfl (lv_room (Nat.le_of_ble_eq_true rfl)) dX4_readSide_143 ⟨(by show _ ≤ uc; omega), (by show _ ≤ us; omega)⟩) hS (fun q _ h => hFc q h) hFc (fun r143 w14 t H1 locs ht hvm hw hB hz1 hk1 hS => ?_)
            obtain ⟨hw0, hW, hT⟩ := hw
            replace hw0 : r143 = r143z := hw0
            subst hw0
            obtain ⟨hP1, hK1, hD1⟩ := hB
            rw [ht] at hP1
            obtain ⟨hP, hD⟩ := jn_all (w1 := w14) hFc hP1 hD1
            replace hP : va_P (dC, dI) vwCl w14 H1 := hP
            replace hD : va_D A w14 := hD
            clear hFc hP1 hK1 hD1 hk1 hz1 ht hvm
            generalize H1 = H at hP hS ⊢
            refine lv_if_eq (tgt := 174) hx hb dX4_readSide_146 (by decide) (fun c146 => ?_) (fun c146 => ?_)
            · replace hr := iteT c146 hr
              exact Jj174 (va_up (va_up G 80 c143_G80) 81 c143_G81) P U V X O kd ln cnt ad w14 H _ ls cc cs _ _ hr hu1 hu2 hE hW hT hP hD hS (lv_sub hl [] rfl)
            · replace hr := iteF c146 hr
              refine lv_aload_n hx hb dX4_readSide_149 rfl (lv_at hl 0 rfl) ?_
              refine lv_iconst (v := 0) hx hb dX4_readSide_150 (by decide +kernel) ?_
              replace hr := b8S hr
              obtain ⟨r151z, c151_G80, c151_G81, c151_G84, c151_G85, c151_G86, c151_G87, c151_G88, hc151, hr⟩ := hr
              have hFc := fr_all hD hS hA
              obtain ⟨i15, hi15⟩ := hW.o4 hk_this
              refine va_calli (va_runV (As := [.int 0]) (rest := []) ⟨hx, hb, hml, hown, hts⟩ (m_X4_takeLetters l dC dI kk ad H.size w14 (va_up (va_up G 80 c143_G80) 81 c143_G81) P U V X O kd ln cnt this 0 hk_this hW hT r151z c151_G80 c151_G81 c151_G84 c151_G85 c151_G86 c151_G87 c151_G88 hc151) (cwV 1 hts gc_RX4_X4_takeLetters_111 rfl rfl rfl (by decide +kernel) ⟨Nat.le_of_ble_eq_true rfl, Nat.le_of_ble_eq_true rfl⟩) ⟨fun a U g mk q => by obtain ⟨q0, q1, qP, qK, qD⟩ := q; exact ⟨q0, q1, qP, va_K.moved (u := U) (U := U.calling g mk a) (Vm.Alike.refl U.vm) qK, qD⟩, va_recv hK hP (ci := 4) (q0 := i15) rfl hi15, fun U hU hW => ⟨rfl, by rw [hU], by rw [hU]; exact hP, va_K.moved hW.alike hK, hD.weaken (fun _ _ _ _ => trivial)⟩⟩ rfl rfl hl.1 rfl (lv_room (Nat.le_of_ble_eq_true rfl)) dX4_readSide_151 ⟨(by show _ ≤ uc; omega), (by show _ ≤ us; omega)⟩) hS (fun q _ h => hFc q h) hFc (fun r151 w16 t H1 locs ht hvm hw hB hz1 hk1 hS => ?_)
              obtain ⟨hw0, hW, hT⟩ := hw
              replace hw0 : r151 = r151z := hw0
              subst hw0
              obtain ⟨hP1, hK1, hD1⟩ := hB
              rw [ht] at hP1
              obtain ⟨hP, hD⟩ := jn_all (w1 := w16) hFc hP1 hD1
              replace hP : va_P (dC, dI) vwCl w16 H1 := hP
              replace hD : va_D A w16 := hD
              clear hFc hP1 hK1 hD1 hk1 hz1 ht hvm
              generalize H1 = H at hP hS ⊢
              refine lv_if_eq (tgt := 174) hx hb dX4_readSide_154 (by decide) (fun c154 => ?_) (fun c154 => ?_)
              · replace hr := iteT c154 hr
                exact Jj174 (va_up (va_up (va_up (va_up (va_up (va_up (va_up (va_up (va_up G 80 c143_G80) 81 c143_G81) 80 c151_G80) 81 c151_G81) 84 c151_G84) 85 c151_G85) 86 c151_G86) 87 c151_G87) 88 c151_G88) P U V X O kd ln cnt ad w16 H _ ls cc cs _ _ hr hu1 hu2 hE hW hT hP hD hS (lv_sub hl [] rfl)
              · replace hr := iteF c154 hr
                refine lv_aload_n hx hb dX4_readSide_157 rfl (lv_at hl 1 rfl) ?_
                refine lv_aload_n hx hb dX4_readSide_158 rfl (lv_at hl 0 rfl) ?_
                replace hr := bA10S hr
                obtain ⟨r159, c159_G, c159_P, c159_U, c159_V, c159_X, c159_O, c159_kd, c159_ln, c159_cnt, zv1, zv2, zw1, zw2, hc159, hr, hq1, hq2⟩ := hr
                have hFc := fr_all hD hS hA
                obtain ⟨i17, hi17⟩ := hW.o4 hk_this
                refine va_callr (va_runV (As := []) (rest := [.ref (ad p0)]) ⟨hx, hb, hml, hown, hts⟩ (m_X4_letters l dC dI kk ad H.size w16 (va_up (va_up (va_up (va_up (va_up (va_up (va_up (va_up (va_up G 80 c143_G80) 81 c143_G81) 80 c151_G80) 81 c151_G81) 84 c151_G84) 85 c151_G85) 86 c151_G86) 87 c151_G87) 88 c151_G88) P U V X O kd ln cnt this hk_this hW hT r159 c159_G c159_P c159_U c159_V c159_X c159_O c159_kd c159_ln c159_cnt zv1 zv2 hc159) (cwV 0 hts gc_RX4_X4_letters_126 rfl rfl rfl (by decide +kernel) ⟨Nat.le_of_ble_eq_true rfl, Nat.le_of_ble_eq_true rfl⟩) ⟨fun a U g mk q => by obtain ⟨q0, q1, qP, qK, qD⟩ := q; exact ⟨q0, q1, qP, va_K.moved (u := U) (U := U.calling g mk a) (Vm.Alike.refl U.vm) qK, qD⟩, va_recv hK hP (ci := 4) (q0 := i17) rfl hi17, fun U hU hW => ⟨rfl, by rw [hU], by rw [hU]; exact hP, va_K.moved hW.alike hK, hD.weaken (fun _ _ _ _ => trivial)⟩⟩ rfl rfl hl.1 rfl (lv_room (Nat.le_of_ble_eq_true rfl)) dX4_readSide_159 ⟨(by show _ ≤ uc; omega), (by show _ ≤ us; omega)⟩) hS (fun q _ h => hFc q h) hFc (fun w18 ra159 t H1 locs ht hvm hw hB hz1 hk1 hS => ?_)
                obtain ⟨w18, ad159_18⟩ := w18
                dsimp only at hw hB
                obtain ⟨hW, hT, hkr159, hE2⟩ := hw
                obtain ⟨hra, hP1, hK1, hD1⟩ := hB
                subst hra
                rw [ht] at hP1
                obtain ⟨hP, hD⟩ := jn_all (w1 := w18) hFc hP1 hD1
                replace hP : va_P (dC, dI) vwCl w18 H1 := hP
                replace hD : va_D A w18 := hD
                clear hFc hP1 hK1 hD1 hk1 hz1 ht hvm
                generalize H1 = H at hP hS ⊢
                have ea_this : ad this = ad159_18 this := (hE2.1 this (by rw [hk_this]; decide)).symm
                have hk18_this := (hE2.2 this (by rw [hk_this]; decide)).trans hk_this
                have ea_p0 : ad p0 = ad159_18 p0 := (hE2.1 p0 (by rw [hk_p0]; decide)).symm
                have hk18_p0 := (hE2.2 p0 (by rw [hk_p0]; decide)).trans hk_p0
                rw [ea_this, ea_p0] at hl
                rw [ea_p0]
                clear ea_this ea_p0
                replace hE := adE hE hE2
                clear hE2
                obtain ⟨ccn19, eccn19⟩ : ∃ y : Nat, y = (cc + zv1) := ⟨_, rfl⟩
                obtain ⟨csn19, ecsn19⟩ : ∃ y : Nat, y = (cs + zv2) := ⟨_, rfl⟩
                refine W.widen (k := ccn19) (n := csn19) (Nat.le_of_eq eccn19.symm) (Nat.le_of_eq ecsn19.symm) ?_
                replace hu1 : ccn19 + zw1 = uc := by omega
                replace hu2 : csn19 + zw2 = us := by omega
                clear eccn19 ecsn19
                obtain ⟨i20, hi20⟩ := hW.o1 hk18_p0
                refine va_put (D := (dC, dI)) (ci := 1) (v := .ref (ad159_18 r159)) (ty := (.array .byte)) (C := RX1) (T := TX1) (N := 6) hx hb hts inX1 tyX1 tyX1_ok nmX1 hown hK hP hD hS i20 hi20 rfl 3 (by decide) (hts (.fieldLink RX4 162 "SpellTurner$Law" "behind" "[B") ic_525) (fun _ h9 => h9) rfl (by decide +kernel) rfl rfl (Nat.le_of_ble_eq_true rfl) dX4_readSide_162 (fun H locs hP2 hD2 hS => ?_)
                obtain ⟨m162, w21, em162, hP, hD, hW⟩ : ∃ (z : Nat → Option Nat) (w : va_W), z = (va_up (c159_P 23) p0 (some r159)) ∧ va_P (dC, dI) vwCl w H ∧ va_D A w ∧ LW w ad159_18 kk c159_kd c159_ln c159_G (va_up c159_P 23 z) c159_U c159_V c159_X c159_O := ⟨_, _, rfl, hP2, hD2, hW.setP hD hi20 (by rw [hk18_p0]; decide) 23 (some r159) (by rw [hk18_p0]; rfl)⟩
                replace hT : TYP c159_kd (va_up c159_P 23 m162) c159_O (c159_V 0) c159_cnt := by rw [em162]; exact hT.setP 23 p0 r159 hkr159
                replace hr := vlS hr m162 em162
                clear em162
                refine lv_goto (tgt := 174) hx hb dX4_readSide_165 (by decide) ?_
                exact Jj174 c159_G (va_up c159_P 23 m162) c159_U c159_V c159_X c159_O c159_kd c159_ln c159_cnt ad159_18 w21 H _ ls ccn19 csn19 _ _ hr hu1 hu2 hE hW hT hP hD hS (lv_sub hl [] rfl)
          refine lv_if_ne (tgt := 142) hx hb dX4_readSide_135 (by decide) (fun c135 => ?_) (fun c135 => ?_)
          · replace hr := iteF c135 hr
            refine lv_iconst (v := 0) hx hb dX4_readSide_142 (by decide +kernel) ?_
            exact Jj143 0 w8 H _ ls 0 0 _ _ hr hu1 hu2 hE hW hT hP hD hS (lv_sub hl [0, 1] rfl)
          · replace hr := iteT c135 hr
            refine lv_iconst (v := 1) hx hb dX4_readSide_138 (by decide +kernel) ?_
            refine lv_goto (tgt := 143) hx hb dX4_readSide_139 (by decide) ?_
            exact Jj143 1 w8 H _ ls 0 0 _ _ hr hu1 hu2 hE hW hT hP hD hS (lv_sub hl [0, 1] rfl)
      · replace hr := iteF c78 hr
        refine lv_aload_n hx hb dX4_readSide_81 rfl (lv_at hl 0 rfl) ?_
        refine lv_aload_n hx hb dX4_readSide_82 rfl (lv_at hl 1 rfl) ?_
        obtain ⟨i22, hi22⟩ := hW.o1 hk_p0
        replace hr := nnS hr
        obtain ⟨a83, hn83, hr⟩ := hr
        have hk_a83 : kd a83 = 100 := hT.1 22 _ _ hn83
        refine va_get (D := (dC, dI)) (ci := 1) (v := .ref (ad a83)) (C := RX1) (T := TX1) (N := 6) hx hb hts inX1 hown hK hP i22 hi22 rfl 2 (by decide) (hts (.fieldLink RX4 157 "SpellTurner$Law" "ahead" "[B") ic_529) (fun _ h9 => h9) (congrArg (fun o => some (va_re ad o)) hn83) dX4_readSide_83 ?_
        obtain ⟨i23, hi23⟩ := hW.v0 hk_a83
        refine va_alen (v := (Int32.ofNat (ln a83))) hx hb hK hP i23 0 hi23 rfl rfl dX4_readSide_86 ?_
        replace hr := jnS hr
        obtain ⟨j95, hj95, hr⟩ := hr
        have Jj95 : ∀ (t95_0 : Int32) (ws : va_W) (H : Heap) (locs : List Loc) (ls : Array Slot) (cc cs u1 u2 : Nat), j95 t95_0 = some ((c_G, c_P, c_U, c_V, c_X, c_O, c_kd, c_ln, c_cnt), u1, u2) → cc + u1 = uc → cs + u2 = us → adEx kd ad kd ad → LW ws ad kk kd ln G P U V X O → TYP kd P O (V 0) cnt → va_P (dC, dI) vwCl ws H → va_D A ws → va_S A s.heap H locs → lv_has ls 2 [(0, .ref (ad this)), (1, .ref (ad p0))] → W p l e ({ frames := 7, cells := uc, slots := us, locals := 362 } : Room) s m args below meth c H locs cc cs Q (F0 m 95 ls [.int t95_0, .ref (ad this)]) := by
          intro t95_0 ws H locs ls cc cs u1 u2 hr hu1 hu2 hE hW hT hP hD hS hl
          rw [hj95] at hr
          replace hr := b3S hr
          obtain ⟨r95z, c95_G80, c95_G81, hc95, hr⟩ := hr
          have hFc := fr_all hD hS hA
          obtain ⟨i24, hi24⟩ := hW.o4 hk_this
          refine va_calli (va_runV (As := [.int t95_0]) (rest := []) ⟨hx, hb, hml, hown, hts⟩ (m_X4_isNew l dC dI kk ad H.size ws G P U V X O kd ln cnt this t95_0 hk_this hW hT r95z c95_G80 c95_G81 hc95) (cwV 1 hts gc_RX4_X4_isNew_147 rfl rfl rfl (by decide +kernel) ⟨Nat.le_of_ble_eq_true rfl, Nat.le_of_ble_eq_true rfl⟩) ⟨fun a U g mk q => by obtain ⟨q0, q1, qP, qK, qD⟩ := q; exact ⟨q0, q1, qP, va_K.moved (u := U) (U := U.calling g mk a) (Vm.Alike.refl U.vm) qK, qD⟩, va_recv hK hP (ci := 4) (q0 := i24) rfl hi24, fun U hU hW => ⟨rfl, by rw [hU], by rw [hU]; exact hP, va_K.moved hW.alike hK, hD.weaken (fun _ _ _ _ => trivial)⟩⟩ rfl rfl hl.1 rfl (lv_room (Nat.le_of_ble_eq_true rfl)) dX4_readSide_95 ⟨(by show _ ≤ uc; omega), (by show _ ≤ us; omega)⟩) hS (fun q _ h => hFc q h) hFc (fun r95 w25 t H1 locs ht hvm hw hB hz1 hk1 hS => ?_)
          obtain ⟨hw0, hW, hT⟩ := hw
          replace hw0 : r95 = r95z := hw0
          subst hw0
          obtain ⟨hP1, hK1, hD1⟩ := hB
          rw [ht] at hP1
          obtain ⟨hP, hD⟩ := jn_all (w1 := w25) hFc hP1 hD1
          replace hP : va_P (dC, dI) vwCl w25 H1 := hP
          replace hD : va_D A w25 := hD
          clear hFc hP1 hK1 hD1 hk1 hz1 ht hvm
          generalize H1 = H at hP hS ⊢
          refine lv_if_eq (tgt := 174) hx hb dX4_readSide_98 (by decide) (fun c98 => ?_) (fun c98 => ?_)
          · replace hr := iteT c98 hr
            exact Jj174 (va_up (va_up G 80 c95_G80) 81 c95_G81) P U V X O kd ln cnt ad w25 H _ ls cc cs _ _ hr hu1 hu2 hE hW hT hP hD hS (lv_sub hl [] rfl)
          · replace hr := iteF c98 hr
            refine lv_aload_n hx hb dX4_readSide_101 rfl (lv_at hl 0 rfl) ?_
            refine lv_iconst (v := 0) hx hb dX4_readSide_102 (by decide +kernel) ?_
            replace hr := b8S hr
            obtain ⟨r103z, c103_G80, c103_G81, c103_G84, c103_G85, c103_G86, c103_G87, c103_G88, hc103, hr⟩ := hr
            have hFc := fr_all hD hS hA
            obtain ⟨i26, hi26⟩ := hW.o4 hk_this
            refine va_calli (va_runV (As := [.int 0]) (rest := []) ⟨hx, hb, hml, hown, hts⟩ (m_X4_takeLetters l dC dI kk ad H.size w25 (va_up (va_up G 80 c95_G80) 81 c95_G81) P U V X O kd ln cnt this 0 hk_this hW hT r103z c103_G80 c103_G81 c103_G84 c103_G85 c103_G86 c103_G87 c103_G88 hc103) (cwV 1 hts gc_RX4_X4_takeLetters_111 rfl rfl rfl (by decide +kernel) ⟨Nat.le_of_ble_eq_true rfl, Nat.le_of_ble_eq_true rfl⟩) ⟨fun a U g mk q => by obtain ⟨q0, q1, qP, qK, qD⟩ := q; exact ⟨q0, q1, qP, va_K.moved (u := U) (U := U.calling g mk a) (Vm.Alike.refl U.vm) qK, qD⟩, va_recv hK hP (ci := 4) (q0 := i26) rfl hi26, fun U hU hW => ⟨rfl, by rw [hU], by rw [hU]; exact hP, va_K.moved hW.alike hK, hD.weaken (fun _ _ _ _ => trivial)⟩⟩ rfl rfl hl.1 rfl (lv_room (Nat.le_of_ble_eq_true rfl)) dX4_readSide_103 ⟨(by show _ ≤ uc; omega), (by show _ ≤ us; omega)⟩) hS (fun q _ h => hFc q h) hFc (fun r103 w27 t H1 locs ht hvm hw hB hz1 hk1 hS => ?_)
            obtain ⟨hw0, hW, hT⟩ := hw
            replace hw0 : r103 = r103z := hw0
            subst hw0
            obtain ⟨hP1, hK1, hD1⟩ := hB
            rw [ht] at hP1
            obtain ⟨hP, hD⟩ := jn_all (w1 := w27) hFc hP1 hD1
            replace hP : va_P (dC, dI) vwCl w27 H1 := hP
            replace hD : va_D A w27 := hD
            clear hFc hP1 hK1 hD1 hk1 hz1 ht hvm
            generalize H1 = H at hP hS ⊢
            refine lv_if_eq (tgt := 174) hx hb dX4_readSide_106 (by decide) (fun c106 => ?_) (fun c106 => ?_)
            · replace hr := iteT c106 hr
              exact Jj174 (va_up (va_up (va_up (va_up (va_up (va_up (va_up (va_up (va_up G 80 c95_G80) 81 c95_G81) 80 c103_G80) 81 c103_G81) 84 c103_G84) 85 c103_G85) 86 c103_G86) 87 c103_G87) 88 c103_G88) P U V X O kd ln cnt ad w27 H _ ls cc cs _ _ hr hu1 hu2 hE hW hT hP hD hS (lv_sub hl [] rfl)
            · replace hr := iteF c106 hr
              refine lv_aload_n hx hb dX4_readSide_109 rfl (lv_at hl 1 rfl) ?_
              refine lv_aload_n hx hb dX4_readSide_110 rfl (lv_at hl 0 rfl) ?_
              replace hr := bA10S hr
              obtain ⟨r111, c111_G, c111_P, c111_U, c111_V, c111_X, c111_O, c111_kd, c111_ln, c111_cnt, zv1, zv2, zw1, zw2, hc111, hr, hq1, hq2⟩ := hr
              have hFc := fr_all hD hS hA
              obtain ⟨i28, hi28⟩ := hW.o4 hk_this
              refine va_callr (va_runV (As := []) (rest := [.ref (ad p0)]) ⟨hx, hb, hml, hown, hts⟩ (m_X4_letters l dC dI kk ad H.size w27 (va_up (va_up (va_up (va_up (va_up (va_up (va_up (va_up (va_up G 80 c95_G80) 81 c95_G81) 80 c103_G80) 81 c103_G81) 84 c103_G84) 85 c103_G85) 86 c103_G86) 87 c103_G87) 88 c103_G88) P U V X O kd ln cnt this hk_this hW hT r111 c111_G c111_P c111_U c111_V c111_X c111_O c111_kd c111_ln c111_cnt zv1 zv2 hc111) (cwV 0 hts gc_RX4_X4_letters_126 rfl rfl rfl (by decide +kernel) ⟨Nat.le_of_ble_eq_true rfl, Nat.le_of_ble_eq_true rfl⟩) ⟨fun a U g mk q => by obtain ⟨q0, q1, qP, qK, qD⟩ := q; exact ⟨q0, q1, qP, va_K.moved (u := U) (U := U.calling g mk a) (Vm.Alike.refl U.vm) qK, qD⟩, va_recv hK hP (ci := 4) (q0 := i28) rfl hi28, fun U hU hW => ⟨rfl, by rw [hU], by rw [hU]; exact hP, va_K.moved hW.alike hK, hD.weaken (fun _ _ _ _ => trivial)⟩⟩ rfl rfl hl.1 rfl (lv_room (Nat.le_of_ble_eq_true rfl)) dX4_readSide_111 ⟨(by show _ ≤ uc; omega), (by show _ ≤ us; omega)⟩) hS (fun q _ h => hFc q h) hFc (fun w29 ra111 t H1 locs ht hvm hw hB hz1 hk1 hS => ?_)
              obtain ⟨w29, ad111_29⟩ := w29
              dsimp only at hw hB
              obtain ⟨hW, hT, hkr111, hE2⟩ := hw
              obtain ⟨hra, hP1, hK1, hD1⟩ := hB
              subst hra
              rw [ht] at hP1
              obtain ⟨hP, hD⟩ := jn_all (w1 := w29) hFc hP1 hD1
              replace hP : va_P (dC, dI) vwCl w29 H1 := hP
              replace hD : va_D A w29 := hD
              clear hFc hP1 hK1 hD1 hk1 hz1 ht hvm
              generalize H1 = H at hP hS ⊢
              have ea_this : ad this = ad111_29 this := (hE2.1 this (by rw [hk_this]; decide)).symm
              have hk29_this := (hE2.2 this (by rw [hk_this]; decide)).trans hk_this
              have ea_p0 : ad p0 = ad111_29 p0 := (hE2.1 p0 (by rw [hk_p0]; decide)).symm
              have hk29_p0 := (hE2.2 p0 (by rw [hk_p0]; decide)).trans hk_p0
              rw [ea_this, ea_p0] at hl
              rw [ea_p0]
              clear ea_this ea_p0
              replace hE := adE hE hE2
              clear hE2
              obtain ⟨ccn30, eccn30⟩ : ∃ y : Nat, y = (cc + zv1) := ⟨_, rfl⟩
              obtain ⟨csn30, ecsn30⟩ : ∃ y : Nat, y = (cs + zv2) := ⟨_, rfl⟩
              refine W.widen (k := ccn30) (n := csn30) (Nat.le_of_eq eccn30.symm) (Nat.le_of_eq ecsn30.symm) ?_
              replace hu1 : ccn30 + zw1 = uc := by omega
              replace hu2 : csn30 + zw2 = us := by omega
              clear eccn30 ecsn30
              obtain ⟨i31, hi31⟩ := hW.o1 hk29_p0
              refine va_put (D := (dC, dI)) (ci := 1) (v := .ref (ad111_29 r111)) (ty := (.array .byte)) (C := RX1) (T := TX1) (N := 6) hx hb hts inX1 tyX1 tyX1_ok nmX1 hown hK hP hD hS i31 hi31 rfl 2 (by decide) (hts (.fieldLink RX4 157 "SpellTurner$Law" "ahead" "[B") ic_529) (fun _ h9 => h9) rfl (by decide +kernel) rfl rfl (Nat.le_of_ble_eq_true rfl) dX4_readSide_114 (fun H locs hP2 hD2 hS => ?_)
              obtain ⟨m114, w32, em114, hP, hD, hW⟩ : ∃ (z : Nat → Option Nat) (w : va_W), z = (va_up (c111_P 22) p0 (some r111)) ∧ va_P (dC, dI) vwCl w H ∧ va_D A w ∧ LW w ad111_29 kk c111_kd c111_ln c111_G (va_up c111_P 22 z) c111_U c111_V c111_X c111_O := ⟨_, _, rfl, hP2, hD2, hW.setP hD hi31 (by rw [hk29_p0]; decide) 22 (some r111) (by rw [hk29_p0]; rfl)⟩
              replace hT : TYP c111_kd (va_up c111_P 22 m114) c111_O (c111_V 0) c111_cnt := by rw [em114]; exact hT.setP 22 p0 r111 hkr111
              replace hr := vlS hr m114 em114
              clear em114
              refine lv_goto (tgt := 174) hx hb dX4_readSide_117 (by decide) ?_
              exact Jj174 c111_G (va_up c111_P 22 m114) c111_U c111_V c111_X c111_O c111_kd c111_ln c111_cnt ad111_29 w32 H _ ls ccn30 csn30 _ _ hr hu1 hu2 hE hW hT hP hD hS (lv_sub hl [] rfl)
        refine lv_if_ne (tgt := 94) hx hb dX4_readSide_87 (by decide) (fun c87 => ?_) (fun c87 => ?_)
        · replace hr := iteF c87 hr
          refine lv_iconst (v := 0) hx hb dX4_readSide_94 (by decide +kernel) ?_
          exact Jj95 0 w6 H _ ls 0 0 _ _ hr hu1 hu2 hE hW hT hP hD hS (lv_sub hl [0, 1] rfl)
        · replace hr := iteT c87 hr
          refine lv_iconst (v := 1) hx hb dX4_readSide_90 (by decide +kernel) ?_
          refine lv_goto (tgt := 95) hx hb dX4_readSide_91 (by decide) ?_
          exact Jj95 1 w6 H _ ls 0 0 _ _ hr hu1 hu2 hE hW hT hP hD hS (lv_sub hl [0, 1] rfl)
    · replace hr := iteF c42 hr
      refine lv_aload_n hx hb dX4_readSide_45 rfl (lv_at hl 0 rfl) ?_
      refine lv_aload_n hx hb dX4_readSide_46 rfl (lv_at hl 1 rfl) ?_
      obtain ⟨i33, hi33⟩ := hW.o1 hk_p0
      refine va_get (D := (dC, dI)) (ci := 1) (v := .int ((G 25) p0)) (C := RX1) (T := TX1) (N := 6) hx hb hts inX1 hown hK hP i33 hi33 rfl 5 (by decide) (hts (.fieldLink RX4 152 "SpellTurner$Law" "atEnd" "Z") ic_530) (fun _ h9 => h9) rfl dX4_readSide_47 ?_
      replace hr := jnS hr
      obtain ⟨j58, hj58, hr⟩ := hr
      have Jj58 : ∀ (t58_0 : Int32) (ws : va_W) (H : Heap) (locs : List Loc) (ls : Array Slot) (cc cs u1 u2 : Nat), j58 t58_0 = some ((c_G, c_P, c_U, c_V, c_X, c_O, c_kd, c_ln, c_cnt), u1, u2) → cc + u1 = uc → cs + u2 = us → adEx kd ad kd ad → LW ws ad kk kd ln G P U V X O → TYP kd P O (V 0) cnt → va_P (dC, dI) vwCl ws H → va_D A ws → va_S A s.heap H locs → lv_has ls 2 [(1, .ref (ad p0))] → W p l e ({ frames := 7, cells := uc, slots := us, locals := 362 } : Room) s m args below meth c H locs cc cs Q (F0 m 58 ls [.int t58_0, .ref (ad this)]) := by
        intro t58_0 ws H locs ls cc cs u1 u2 hr hu1 hu2 hE hW hT hP hD hS hl
        rw [hj58] at hr
        replace hr := b3S hr
        obtain ⟨r58z, c58_G80, c58_G81, hc58, hr⟩ := hr
        have hFc := fr_all hD hS hA
        obtain ⟨i34, hi34⟩ := hW.o4 hk_this
        refine va_calli (va_runV (As := [.int t58_0]) (rest := []) ⟨hx, hb, hml, hown, hts⟩ (m_X4_isNew l dC dI kk ad H.size ws G P U V X O kd ln cnt this t58_0 hk_this hW hT r58z c58_G80 c58_G81 hc58) (cwV 1 hts gc_RX4_X4_isNew_147 rfl rfl rfl (by decide +kernel) ⟨Nat.le_of_ble_eq_true rfl, Nat.le_of_ble_eq_true rfl⟩) ⟨fun a U g mk q => by obtain ⟨q0, q1, qP, qK, qD⟩ := q; exact ⟨q0, q1, qP, va_K.moved (u := U) (U := U.calling g mk a) (Vm.Alike.refl U.vm) qK, qD⟩, va_recv hK hP (ci := 4) (q0 := i34) rfl hi34, fun U hU hW => ⟨rfl, by rw [hU], by rw [hU]; exact hP, va_K.moved hW.alike hK, hD.weaken (fun _ _ _ _ => trivial)⟩⟩ rfl rfl hl.1 rfl (lv_room (Nat.le_of_ble_eq_true rfl)) dX4_readSide_58 ⟨(by show _ ≤ uc; omega), (by show _ ≤ us; omega)⟩) hS (fun q _ h => hFc q h) hFc (fun r58 w35 t H1 locs ht hvm hw hB hz1 hk1 hS => ?_)
        obtain ⟨hw0, hW, hT⟩ := hw
        replace hw0 : r58 = r58z := hw0
        subst hw0
        obtain ⟨hP1, hK1, hD1⟩ := hB
        rw [ht] at hP1
        obtain ⟨hP, hD⟩ := jn_all (w1 := w35) hFc hP1 hD1
        replace hP : va_P (dC, dI) vwCl w35 H1 := hP
        replace hD : va_D A w35 := hD
        clear hFc hP1 hK1 hD1 hk1 hz1 ht hvm
        generalize H1 = H at hP hS ⊢
        refine lv_if_eq (tgt := 174) hx hb dX4_readSide_61 (by decide) (fun c61 => ?_) (fun c61 => ?_)
        · replace hr := iteT c61 hr
          exact Jj174 (va_up (va_up G 80 c58_G80) 81 c58_G81) P U V X O kd ln cnt ad w35 H _ ls cc cs _ _ hr hu1 hu2 hE hW hT hP hD hS (lv_sub hl [] rfl)
        · replace hr := iteF c61 hr
          refine lv_aload_n hx hb dX4_readSide_64 rfl (lv_at hl 0 rfl) ?_
          refine lv_iconst (v := 1) hx hb dX4_readSide_65 (by decide +kernel) ?_
          obtain ⟨i36, hi36⟩ := hW.o1 hk_p0
          refine va_put (D := (dC, dI)) (ci := 1) (v := .int 1) (ty := .boolean) (C := RX1) (T := TX1) (N := 6) hx hb hts inX1 tyX1 tyX1_ok nmX1 hown hK hP hD hS i36 hi36 rfl 5 (by decide) (hts (.fieldLink RX4 152 "SpellTurner$Law" "atEnd" "Z") ic_530) (fun _ h9 => h9) rfl (by decide +kernel) rfl rfl (Nat.le_of_ble_eq_true rfl) dX4_readSide_66 (fun H locs hP2 hD2 hS => ?_)
          obtain ⟨m66, w37, em66, hP, hD, hW⟩ : ∃ (z : Nat → Int32) (w : va_W), z = (va_up (G 25) p0 1) ∧ va_P (dC, dI) vwCl w H ∧ va_D A w ∧ LW w ad kk kd ln (va_up (va_up (va_up G 80 c58_G80) 81 c58_G81) 25 z) P U V X O := ⟨_, _, rfl, hP2, hD2, hW.setG hD hi36 (by rw [hk_p0]; decide) 25 1 (by rw [hk_p0]; rfl)⟩
          replace hr := vlS hr m66 em66
          clear em66
          refine lv_goto (tgt := 174) hx hb dX4_readSide_69 (by decide) ?_
          exact Jj174 (va_up (va_up (va_up G 80 c58_G80) 81 c58_G81) 25 m66) P U V X O kd ln cnt ad w37 H _ ls cc cs _ _ hr hu1 hu2 hE hW hT hP hD hS (lv_sub hl [] rfl)
      refine lv_if_ne (tgt := 57) hx hb dX4_readSide_50 (by decide) (fun c50 => ?_) (fun c50 => ?_)
      · replace hr := iteF c50 hr
        refine lv_iconst (v := 0) hx hb dX4_readSide_57 (by decide +kernel) ?_
        exact Jj58 0 w4 H _ ls 0 0 _ _ hr hu1 hu2 hE hW hT hP hD hS (lv_sub hl [1] rfl)
      · replace hr := iteT c50 hr
        refine lv_iconst (v := 1) hx hb dX4_readSide_53 (by decide +kernel) ?_
        refine lv_goto (tgt := 58) hx hb dX4_readSide_54 (by decide) ?_
        exact Jj58 1 w4 H _ ls 0 0 _ _ hr hu1 hu2 hE hW hT hP hD hS (lv_sub hl [1] rfl)
  · replace hr := iteF c6 hr
    refine lv_aload_n hx hb dX4_readSide_9 rfl (lv_at hl 0 rfl) ?_
    refine lv_aload_n hx hb dX4_readSide_10 rfl (lv_at hl 1 rfl) ?_
    obtain ⟨i38, hi38⟩ := hW.o1 hk_p0
    refine va_get (D := (dC, dI)) (ci := 1) (v := .int ((G 24) p0)) (C := RX1) (T := TX1) (N := 6) hx hb hts inX1 hown hK hP i38 hi38 rfl 4 (by decide) (hts (.fieldLink RX4 143 "SpellTurner$Law" "atStart" "Z") ic_531) (fun _ h9 => h9) rfl dX4_readSide_11 ?_
    replace hr := jnS hr
    obtain ⟨j22, hj22, hr⟩ := hr
    have Jj22 : ∀ (t22_0 : Int32) (ws : va_W) (H : Heap) (locs : List Loc) (ls : Array Slot) (cc cs u1 u2 : Nat), j22 t22_0 = some ((c_G, c_P, c_U, c_V, c_X, c_O, c_kd, c_ln, c_cnt), u1, u2) → cc + u1 = uc → cs + u2 = us → adEx kd ad kd ad → LW ws ad kk kd ln G P U V X O → TYP kd P O (V 0) cnt → va_P (dC, dI) vwCl ws H → va_D A ws → va_S A s.heap H locs → lv_has ls 2 [(1, .ref (ad p0))] → W p l e ({ frames := 7, cells := uc, slots := us, locals := 362 } : Room) s m args below meth c H locs cc cs Q (F0 m 22 ls [.int t22_0, .ref (ad this)]) := by
      intro t22_0 ws H locs ls cc cs u1 u2 hr hu1 hu2 hE hW hT hP hD hS hl
      rw [hj22] at hr
      replace hr := b3S hr
      obtain ⟨r22z, c22_G80, c22_G81, hc22, hr⟩ := hr
      have hFc := fr_all hD hS hA
      obtain ⟨i39, hi39⟩ := hW.o4 hk_this
      refine va_calli (va_runV (As := [.int t22_0]) (rest := []) ⟨hx, hb, hml, hown, hts⟩ (m_X4_isNew l dC dI kk ad H.size ws G P U V X O kd ln cnt this t22_0 hk_this hW hT r22z c22_G80 c22_G81 hc22) (cwV 1 hts gc_RX4_X4_isNew_147 rfl rfl rfl (by decide +kernel) ⟨Nat.le_of_ble_eq_true rfl, Nat.le_of_ble_eq_true rfl⟩) ⟨fun a U g mk q => by obtain ⟨q0, q1, qP, qK, qD⟩ := q; exact ⟨q0, q1, qP, va_K.moved (u := U) (U := U.calling g mk a) (Vm.Alike.refl U.vm) qK, qD⟩, va_recv hK hP (ci := 4) (q0 := i39) rfl hi39, fun U hU hW => ⟨rfl, by rw [hU], by rw [hU]; exact hP, va_K.moved hW.alike hK, hD.weaken (fun _ _ _ _ => trivial)⟩⟩ rfl rfl hl.1 rfl (lv_room (Nat.le_of_ble_eq_true rfl)) dX4_readSide_22 ⟨(by show _ ≤ uc; omega), (by show _ ≤ us; omega)⟩) hS (fun q _ h => hFc q h) hFc (fun r22 w40 t H1 locs ht hvm hw hB hz1 hk1 hS => ?_)
      obtain ⟨hw0, hW, hT⟩ := hw
      replace hw0 : r22 = r22z := hw0
      subst hw0
      obtain ⟨hP1, hK1, hD1⟩ := hB
      rw [ht] at hP1
      obtain ⟨hP, hD⟩ := jn_all (w1 := w40) hFc hP1 hD1
      replace hP : va_P (dC, dI) vwCl w40 H1 := hP
      replace hD : va_D A w40 := hD
      clear hFc hP1 hK1 hD1 hk1 hz1 ht hvm
      generalize H1 = H at hP hS ⊢
      refine lv_if_eq (tgt := 174) hx hb dX4_readSide_25 (by decide) (fun c25 => ?_) (fun c25 => ?_)
      · replace hr := iteT c25 hr
        exact Jj174 (va_up (va_up G 80 c22_G80) 81 c22_G81) P U V X O kd ln cnt ad w40 H _ ls cc cs _ _ hr hu1 hu2 hE hW hT hP hD hS (lv_sub hl [] rfl)
      · replace hr := iteF c25 hr
        refine lv_aload_n hx hb dX4_readSide_28 rfl (lv_at hl 0 rfl) ?_
        refine lv_iconst (v := 1) hx hb dX4_readSide_29 (by decide +kernel) ?_
        obtain ⟨i41, hi41⟩ := hW.o1 hk_p0
        refine va_put (D := (dC, dI)) (ci := 1) (v := .int 1) (ty := .boolean) (C := RX1) (T := TX1) (N := 6) hx hb hts inX1 tyX1 tyX1_ok nmX1 hown hK hP hD hS i41 hi41 rfl 4 (by decide) (hts (.fieldLink RX4 143 "SpellTurner$Law" "atStart" "Z") ic_531) (fun _ h9 => h9) rfl (by decide +kernel) rfl rfl (Nat.le_of_ble_eq_true rfl) dX4_readSide_30 (fun H locs hP2 hD2 hS => ?_)
        obtain ⟨m30, w42, em30, hP, hD, hW⟩ : ∃ (z : Nat → Int32) (w : va_W), z = (va_up (G 24) p0 1) ∧ va_P (dC, dI) vwCl w H ∧ va_D A w ∧ LW w ad kk kd ln (va_up (va_up (va_up G 80 c22_G80) 81 c22_G81) 24 z) P U V X O := ⟨_, _, rfl, hP2, hD2, hW.setG hD hi41 (by rw [hk_p0]; decide) 24 1 (by rw [hk_p0]; rfl)⟩
        replace hr := vlS hr m30 em30
        clear em30
        refine lv_goto (tgt := 174) hx hb dX4_readSide_33 (by decide) ?_
        exact Jj174 (va_up (va_up (va_up G 80 c22_G80) 81 c22_G81) 24 m30) P U V X O kd ln cnt ad w42 H _ ls cc cs _ _ hr hu1 hu2 hE hW hT hP hD hS (lv_sub hl [] rfl)
    refine lv_if_ne (tgt := 21) hx hb dX4_readSide_14 (by decide) (fun c14 => ?_) (fun c14 => ?_)
    · replace hr := iteF c14 hr
      refine lv_iconst (v := 0) hx hb dX4_readSide_21 (by decide +kernel) ?_
      exact Jj22 0 w2 H _ ls 0 0 _ _ hr hu1 hu2 hE hW hT hP hD hS (lv_sub hl [1] rfl)
    · replace hr := iteT c14 hr
      refine lv_iconst (v := 1) hx hb dX4_readSide_17 (by decide +kernel) ?_
      refine lv_goto (tgt := 22) hx hb dX4_readSide_18 (by decide) ?_
      exact Jj22 1 w2 H _ ls 0 0 _ _ hr hu1 hu2 hE hW hT hP hD hS (lv_sub hl [1] rfl)
set_option maxHeartbeats 4000000 in
set_option maxRecDepth 100000 in
theorem m_X4_readSide (l : Launch) (dC : Nat → ClassId) (dI : Nat → Nat → Nat) (adK adV : Nat → Nat) (kk : Nat → ClassId) (ad : Nat → Nat) (sz : Nat) (ws : va_W) (G : Nat → Nat → Int32) (P : Nat → Nat → Option Nat) (U : Nat → Nat → Int64) (V : Nat → Nat → Nat → Int32) (X : Nat → Nat → Nat → Int64) (O : Nat → Nat → Nat → Option Nat) (kd : Nat → Nat) (ln : Nat → Nat) (cnt : Nat) (this : Nat) (p0 : Nat) (hk_this : kd this = 5) (hk_p0 : kd p0 = 2) (hW : LW ws ad kk kd ln G P U V X O) (hT : TYP kd P O (V 0) cnt) (c_G : Nat → Nat → Int32) (c_P : Nat → Nat → Option Nat) (c_U : Nat → Nat → Int64) (c_V : Nat → Nat → Nat → Int32) (c_X : Nat → Nat → Nat → Int64) (c_O : Nat → Nat → Nat → Option Nat) (c_kd : Nat → Nat) (c_ln : Nat → Nat) (c_cnt : Nat) (uc us : Nat) (hr : f_X4_readSide G P U V X O kd ln cnt this p0 = some ((c_G, c_P, c_U, c_V, c_X, c_O, c_kd, c_ln, c_cnt), uc, us)) : Met l yX4_readSide vmX4_readSide ({ frames := 7, cells := uc, slots := us, locals := 362 } : Room) (va_Pc [.ref (ad this), .ref (ad p0)] (fun U => U.heap.size = sz ∧ va_P (dC, dI) vwCl ws U.heap ∧ va_K (dC, dI) vwCl (cT kk) U ∧ va_D (fun _ => True) ws ∧ SE adK adV (va_A ws sz) U)) (va_Qv (fun (x : (va_W × (Nat → Nat))) => LW x.1 x.2 kk c_kd c_ln c_G c_P c_U c_V c_X c_O ∧ TYP c_kd c_P c_O (c_V 0) c_cnt ∧ adEx kd ad c_kd x.2) (fun x t => va_P (dC, dI) vwCl x.1 t.heap ∧ va_K (dC, dI) vwCl (cT kk) t ∧ va_D (va_A ws sz) x.1) (va_A ws sz)) uc us (va_A ws sz) := by
  refine Met.ofW (cc := cX4_readSide) (maxL := 2) (ret := none) (by decide) rfl ?_
  intro p e s m args below meth c s₁ B hml hv
  obtain ⟨rfl, hsz, hP, hK, hD0, hSE⟩ := hv
  have hx := B.exec
  have hb := B.bytes
  have hrt := B.returns
  have hts := atoms_spec (ws := vmX4_readSide) B.pre
  have hown : s.vm.findClass RX4 = some m.cls := findClass_of_methodNamed B.named
  subst hsz
  have hD := hD0.self (sz := s.heap.size)
  generalize hAe : va_A ws s.heap.size = A at hD hSE ⊢
  have hA : ∀ q : Nat, s.heap.size ≤ q → A q := fun q h => by rw [← hAe]; exact Or.inr h
  have hS : va_S A s.heap s.heap [] := va_S.rf
  have hl := lv_entry ([.ref (ad this), .ref (ad p0)]) (n := 2) (Nat.le_of_ble_eq_true rfl)
  rw [lg_entry_eq]
  generalize (lg_sl ([.ref (ad this), .ref (ad p0)]) ++ List.replicate (2 - (lg_sl ([.ref (ad this), .ref (ad p0)])).length) Slot.unset).toArray = ls at hl ⊢
  exact bm_X4_readSide this p0 hk_this hk_p0 c_G c_P c_U c_V c_X c_O c_kd c_ln c_cnt uc us hr hx hb hml hown hts hA hK hSE hW hT hP hD hS hl (fun pc ls c_Gz c_Pz c_Uz c_Vz c_Xz c_Oz c_kdz c_lnz c_cntz adz ws H locs he hd hE hW hT hP hD hS => by cases he; exact W.vret hx hb hrt (fun t ht hW9 => ⟨⟨(ws, adz), rfl, ⟨hW, hT, hE⟩, by rw [ht]; exact hP, va_K.moved hW9.alike hK, hD⟩, hS.F ht⟩) hS.2.2 hd)
set_option maxHeartbeats 4000000 in
set_option maxRecDepth 100000 in
theorem bm_X4_readLaw {p : Program} {l : Launch} {e : Env} {s : State} {m : MethodId} {args : Array Value} {below : List Frame} {meth : Method} {c : Code} {Q : State → Prop} {A : Nat → Prop} {dC : Nat → ClassId} {dI : Nat → Nat → Nat} {kk : Nat → ClassId} {ad : Nat → Nat} {ws : va_W} {G : Nat → Nat → Int32} {P : Nat → Nat → Option Nat} {U : Nat → Nat → Int64} {V : Nat → Nat → Nat → Int32} {X : Nat → Nat → Nat → Int64} {O : Nat → Nat → Nat → Option Nat} {kd : Nat → Nat} {ln : Nat → Nat} {cnt : Nat} {H : Heap} {locs : List Loc} {ls : Array Slot} (this : Nat) (p0 : Nat) (hk_this : kd this = 5) (hk_p0 : kd p0 = 6) (c_G : Nat → Nat → Int32) (c_P : Nat → Nat → Option Nat) (c_U : Nat → Nat → Int64) (c_V : Nat → Nat → Nat → Int32) (c_X : Nat → Nat → Nat → Int64) (c_O : Nat → Nat → Nat → Option Nat) (c_kd : Nat → Nat) (c_ln : Nat → Nat) (c_cnt : Nat) (uc us : Nat) (hr : f_X4_readLaw G P U V X O kd ln cnt this p0 = some ((c_G, c_P, c_U, c_V, c_X, c_O, c_kd, c_ln, c_cnt), uc, us)) (hx : p.tables.exec = Jvm.exec) (hb : c.code = cX4_readLaw) (hml : c.maxLocals = 5) (hown : s.vm.findClass RX4 = some m.cls) (hts : ∀ w ∈ vmX4_readLaw, w.before args s = true) (hA : ∀ q : Nat, s.heap.size ≤ q → A q) (hK : va_K (dC, dI) vwCl (cT kk) s) {adK adV : Nat → Nat} (hSE : SE adK adV A s) (hW : LW ws ad kk kd ln G P U V X O) (hT : TYP kd P O (V 0) cnt) (hP : va_P (dC, dI) vwCl ws H) (hD : va_D A ws) (hS : va_S A s.heap H locs) (hl : lv_has ls 5 [(0, .ref (ad this)), (1, .ref (ad p0))])
    (K : ∀ (pc : Nat) (ls : Array Slot) (c_Gz : Nat → Nat → Int32) (c_Pz : Nat → Nat → Option Nat) (c_Uz : Nat → Nat → Int64) (c_Vz : Nat → Nat → Nat → Int32) (c_Xz : Nat → Nat → Nat → Int64) (c_Oz : Nat → Nat → Nat → Option Nat) (c_kdz : Nat → Nat) (c_lnz : Nat → Nat) (c_cntz : Nat) (adz : Nat → Nat) (ws : va_W) (H : Heap) (locs : List Loc), some (c_Gz, c_Pz, c_Uz, c_Vz, c_Xz, c_Oz, c_kdz, c_lnz, c_cntz) = some (c_G, c_P, c_U, c_V, c_X, c_O, c_kd, c_ln, c_cnt) → decode cX4_readLaw pc = .ok (.return_, 1) → adEx kd ad c_kdz adz → LW ws adz kk c_kdz c_lnz c_Gz c_Pz c_Uz c_Vz c_Xz c_Oz → TYP c_kdz c_Pz c_Oz (c_Vz 0) c_cntz → va_P (dC, dI) vwCl ws H → va_D A ws → va_S A s.heap H locs → W p l e ({ frames := 8, cells := uc, slots := us, locals := 383 } : Room) s m args below meth c H locs uc us Q (F0 m pc ls [])) : W p l e ({ frames := 8, cells := uc, slots := us, locals := 383 } : Room) s m args below meth c H locs 0 0 Q (F0 m 0 ls []) := by
  have hu1 : 0 + uc = uc := Nat.zero_add _
  have hu2 : 0 + us = us := Nat.zero_add _
  have hE : adEx kd ad kd ad := ⟨fun _ _ => rfl, fun _ _ => rfl⟩
  unfold f_X4_readLaw at hr
  refine lv_aload_n hx hb dX4_readLaw_0 rfl (lv_at hl 0 rfl) ?_
  refine lv_aload_n hx hb dX4_readLaw_1 rfl (lv_at hl 1 rfl) ?_
  obtain ⟨i1, hi1⟩ := hW.o5 hk_p0
  refine va_get (D := (dC, dI)) (ci := 5) (v := .int ((G 102) p0)) (C := RX5) (T := TX5) (N := 11) hx hb hts inX5 hown hK hP i1 hi1 rfl 2 (by decide) (hts (.fieldLink RX4 123 "SpellTurner$Reform" "lawCount" "I") ic_533) (fun _ h9 => h9) rfl dX4_readLaw_2 ?_
  refine lv_bipush (v := 40) hx hb dX4_readLaw_5 (by decide +kernel) ?_
  replace hr := jnS hr
  obtain ⟨j15, hj15, hr⟩ := hr
  have Jj15 : ∀ (t15_0 : Int32) (ws : va_W) (H : Heap) (locs : List Loc) (ls : Array Slot) (cc cs u1 u2 : Nat), j15 t15_0 = some ((c_G, c_P, c_U, c_V, c_X, c_O, c_kd, c_ln, c_cnt), u1, u2) → cc + u1 = uc → cs + u2 = us → adEx kd ad kd ad → LW ws ad kk kd ln G P U V X O → TYP kd P O (V 0) cnt → va_P (dC, dI) vwCl ws H → va_D A ws → va_S A s.heap H locs → lv_has ls 5 [(0, .ref (ad this)), (1, .ref (ad p0))] → W p l e ({ frames := 8, cells := uc, slots := us, locals := 383 } : Room) s m args below meth c H locs cc cs Q (F0 m 15 ls [.int t15_0, .ref (ad this)]) := by
    intro t15_0 ws H locs ls cc cs u1 u2 hr hu1 hu2 hE hW hT hP hD hS hl
    rw [hj15] at hr
    replace hr := b3S hr
    obtain ⟨r15z, c15_G80, c15_G81, hc15, hr⟩ := hr
    have hFc := fr_all hD hS hA
    obtain ⟨i2, hi2⟩ := hW.o4 hk_this
    refine va_calli (va_runV (As := [.int t15_0]) (rest := []) ⟨hx, hb, hml, hown, hts⟩ (m_X4_hasRoom l dC dI kk ad H.size ws G P U V X O kd ln cnt this t15_0 hk_this hW hT r15z c15_G80 c15_G81 hc15) (cwV 1 hts gc_RX4_X4_hasRoom_90 rfl rfl rfl (by decide +kernel) ⟨Nat.le_of_ble_eq_true rfl, Nat.le_of_ble_eq_true rfl⟩) ⟨fun a U g mk q => by obtain ⟨q0, q1, qP, qK, qD⟩ := q; exact ⟨q0, q1, qP, va_K.moved (u := U) (U := U.calling g mk a) (Vm.Alike.refl U.vm) qK, qD⟩, va_recv hK hP (ci := 4) (q0 := i2) rfl hi2, fun U hU hW => ⟨rfl, by rw [hU], by rw [hU]; exact hP, va_K.moved hW.alike hK, hD.weaken (fun _ _ _ _ => trivial)⟩⟩ rfl rfl hl.1 rfl (lv_room (Nat.le_of_ble_eq_true rfl)) dX4_readLaw_15 ⟨(by show _ ≤ uc; omega), (by show _ ≤ us; omega)⟩) hS (fun q _ h => hFc q h) hFc (fun r15 w3 t H1 locs ht hvm hw hB hz1 hk1 hS => ?_)
    obtain ⟨hw0, hW, hT⟩ := hw
    replace hw0 : r15 = r15z := hw0
    subst hw0
    obtain ⟨hP1, hK1, hD1⟩ := hB
    rw [ht] at hP1
    obtain ⟨hP, hD⟩ := jn_all (w1 := w3) hFc hP1 hD1
    replace hP : va_P (dC, dI) vwCl w3 H1 := hP
    replace hD : va_D A w3 := hD
    clear hFc hP1 hK1 hD1 hk1 hz1 ht hvm
    generalize H1 = H at hP hS ⊢
    replace hr := jnS hr
    obtain ⟨j29, hj29, hr⟩ := hr
    have Jj29 : ∀ (c29_G80 : Nat → Int32) (c29_G81 : Nat → Int32) (c29_G84 : Nat → Int32) (c29_G85 : Nat → Int32) (c29_G86 : Nat → Int32) (c29_G87 : Nat → Int32) (c29_G88 : Nat → Int32) (ws : va_W) (H : Heap) (locs : List Loc) (ls : Array Slot) (cc cs u1 u2 : Nat), j29 c29_G80 c29_G81 c29_G84 c29_G85 c29_G86 c29_G87 c29_G88 = some ((c_G, c_P, c_U, c_V, c_X, c_O, c_kd, c_ln, c_cnt), u1, u2) → cc + u1 = uc → cs + u2 = us → adEx kd ad kd ad → LW ws ad kk kd ln (va_up (va_up (va_up (va_up (va_up (va_up (va_up G 80 c29_G80) 81 c29_G81) 84 c29_G84) 85 c29_G85) 86 c29_G86) 87 c29_G87) 88 c29_G88) P U V X O → TYP kd P O (V 0) cnt → va_P (dC, dI) vwCl ws H → va_D A ws → va_S A s.heap H locs → lv_has ls 5 [] → W p l e ({ frames := 8, cells := uc, slots := us, locals := 383 } : Room) s m args below meth c H locs cc cs Q (F0 m 29 ls []) := by
      intro c29_G80 c29_G81 c29_G84 c29_G85 c29_G86 c29_G87 c29_G88 ws H locs ls cc cs u1 u2 hr hu1 hu2 hE hW hT hP hD hS hl
      rw [hj29] at hr
      replace hr := retS hr
      obtain ⟨hr, hv1, hv2⟩ := hr
      refine W.widen (k := uc) (n := us) (by omega) (by omega) ?_
      exact K 29 ls _ _ _ _ _ _ _ _ _ ad ws H _ hr dX4_readLaw_29 hE hW hT hP hD hS
    refine lv_if_eq (tgt := 29) hx hb dX4_readLaw_18 (by decide) (fun c18 => ?_) (fun c18 => ?_)
    · replace hr := iteT c18 hr
      have eG : (va_up (va_up G 80 c15_G80) 81 c15_G81) = (va_up (va_up (va_up (va_up (va_up (va_up (va_up G 80 c15_G80) 81 c15_G81) 84 (G 84)) 85 (G 85)) 86 (G 86)) 87 (G 87)) 88 (G 88)) := by
        funext k
        by_cases h80 : k = 80
        · subst h80; rfl
        by_cases h81 : k = 81
        · subst h81; rfl
        by_cases h84 : k = 84
        · subst h84; rfl
        by_cases h85 : k = 85
        · subst h85; rfl
        by_cases h86 : k = 86
        · subst h86; rfl
        by_cases h87 : k = 87
        · subst h87; rfl
        by_cases h88 : k = 88
        · subst h88; rfl
        · simp only [va_up, h80, h81, h84, h85, h86, h87, h88, if_false]
      rw [eG] at hW
      clear eG
      exact Jj29 c15_G80 c15_G81 (G 84) (G 85) (G 86) (G 87) (G 88) w3 H _ ls cc cs _ _ hr hu1 hu2 hE hW hT hP hD hS (lv_sub hl [] rfl)
    · replace hr := iteF c18 hr
      refine lv_aload_n hx hb dX4_readLaw_21 rfl (lv_at hl 0 rfl) ?_
      refine lv_iconst (v := 0) hx hb dX4_readLaw_22 (by decide +kernel) ?_
      replace hr := b8S hr
      obtain ⟨r23z, c23_G80, c23_G81, c23_G84, c23_G85, c23_G86, c23_G87, c23_G88, hc23, hr⟩ := hr
      have hFc := fr_all hD hS hA
      obtain ⟨i4, hi4⟩ := hW.o4 hk_this
      refine va_calli (va_runV (As := [.int 0]) (rest := []) ⟨hx, hb, hml, hown, hts⟩ (m_X4_takeLetters l dC dI kk ad H.size w3 (va_up (va_up G 80 c15_G80) 81 c15_G81) P U V X O kd ln cnt this 0 hk_this hW hT r23z c23_G80 c23_G81 c23_G84 c23_G85 c23_G86 c23_G87 c23_G88 hc23) (cwV 1 hts gc_RX4_X4_takeLetters_111 rfl rfl rfl (by decide +kernel) ⟨Nat.le_of_ble_eq_true rfl, Nat.le_of_ble_eq_true rfl⟩) ⟨fun a U g mk q => by obtain ⟨q0, q1, qP, qK, qD⟩ := q; exact ⟨q0, q1, qP, va_K.moved (u := U) (U := U.calling g mk a) (Vm.Alike.refl U.vm) qK, qD⟩, va_recv hK hP (ci := 4) (q0 := i4) rfl hi4, fun U hU hW => ⟨rfl, by rw [hU], by rw [hU]; exact hP, va_K.moved hW.alike hK, hD.weaken (fun _ _ _ _ => trivial)⟩⟩ rfl rfl hl.1 rfl (lv_room (Nat.le_of_ble_eq_true rfl)) dX4_readLaw_23 ⟨(by show _ ≤ uc; omega), (by show _ ≤ us; omega)⟩) hS (fun q _ h => hFc q h) hFc (fun r23 w5 t H1 locs ht hvm hw hB hz1 hk1 hS => ?_)
      obtain ⟨hw0, hW, hT⟩ := hw
      replace hw0 : r23 = r23z := hw0
      subst hw0
      obtain ⟨hP1, hK1, hD1⟩ := hB
      rw [ht] at hP1
      obtain ⟨hP, hD⟩ := jn_all (w1 := w5) hFc hP1 hD1
      replace hP : va_P (dC, dI) vwCl w5 H1 := hP
      replace hD : va_D A w5 := hD
      clear hFc hP1 hK1 hD1 hk1 hz1 ht hvm
      generalize H1 = H at hP hS ⊢
      refine lv_if_ne (tgt := 30) hx hb dX4_readLaw_26 (by decide) (fun c26 => ?_) (fun c26 => ?_)
      · replace hr := iteF c26 hr
        refine lv_aload_n hx hb dX4_readLaw_30 rfl (lv_at hl 0 rfl) ?_
        replace hr := bA10S hr
        obtain ⟨r31, c31_G, c31_P, c31_U, c31_V, c31_X, c31_O, c31_kd, c31_ln, c31_cnt, zv1, zv2, zw1, zw2, hc31, hr, hq1, hq2⟩ := hr
        have hFc := fr_all hD hS hA
        obtain ⟨i6, hi6⟩ := hW.o4 hk_this
        refine va_callr (va_runV (As := []) (rest := []) ⟨hx, hb, hml, hown, hts⟩ (m_X4_letters l dC dI kk ad H.size w5 (va_up (va_up (va_up (va_up (va_up (va_up (va_up (va_up (va_up G 80 c15_G80) 81 c15_G81) 80 c23_G80) 81 c23_G81) 84 c23_G84) 85 c23_G85) 86 c23_G86) 87 c23_G87) 88 c23_G88) P U V X O kd ln cnt this hk_this hW hT r31 c31_G c31_P c31_U c31_V c31_X c31_O c31_kd c31_ln c31_cnt zv1 zv2 hc31) (cwV 0 hts gc_RX4_X4_letters_126 rfl rfl rfl (by decide +kernel) ⟨Nat.le_of_ble_eq_true rfl, Nat.le_of_ble_eq_true rfl⟩) ⟨fun a U g mk q => by obtain ⟨q0, q1, qP, qK, qD⟩ := q; exact ⟨q0, q1, qP, va_K.moved (u := U) (U := U.calling g mk a) (Vm.Alike.refl U.vm) qK, qD⟩, va_recv hK hP (ci := 4) (q0 := i6) rfl hi6, fun U hU hW => ⟨rfl, by rw [hU], by rw [hU]; exact hP, va_K.moved hW.alike hK, hD.weaken (fun _ _ _ _ => trivial)⟩⟩ rfl rfl hl.1 rfl (lv_room (Nat.le_of_ble_eq_true rfl)) dX4_readLaw_31 ⟨(by show _ ≤ uc; omega), (by show _ ≤ us; omega)⟩) hS (fun q _ h => hFc q h) hFc (fun w7 ra31 t H1 locs ht hvm hw hB hz1 hk1 hS => ?_)
        obtain ⟨w7, ad31_7⟩ := w7
        dsimp only at hw hB
        obtain ⟨hW, hT, hkr31, hE2⟩ := hw
        obtain ⟨hra, hP1, hK1, hD1⟩ := hB
        subst hra
        rw [ht] at hP1
        obtain ⟨hP, hD⟩ := jn_all (w1 := w7) hFc hP1 hD1
        replace hP : va_P (dC, dI) vwCl w7 H1 := hP
        replace hD : va_D A w7 := hD
        clear hFc hP1 hK1 hD1 hk1 hz1 ht hvm
        generalize H1 = H at hP hS ⊢
        have ea_this : ad this = ad31_7 this := (hE2.1 this (by rw [hk_this]; decide)).symm
        have hk7_this := (hE2.2 this (by rw [hk_this]; decide)).trans hk_this
        have ea_p0 : ad p0 = ad31_7 p0 := (hE2.1 p0 (by rw [hk_p0]; decide)).symm
        have hk7_p0 := (hE2.2 p0 (by rw [hk_p0]; decide)).trans hk_p0
        rw [ea_this, ea_p0] at hl
        clear ea_this ea_p0
        replace hE := adE hE hE2
        clear hE2
        obtain ⟨ccn8, eccn8⟩ : ∃ y : Nat, y = (cc + zv1) := ⟨_, rfl⟩
        obtain ⟨csn8, ecsn8⟩ : ∃ y : Nat, y = (cs + zv2) := ⟨_, rfl⟩
        refine W.widen (k := ccn8) (n := csn8) (Nat.le_of_eq eccn8.symm) (Nat.le_of_eq ecsn8.symm) ?_
        replace hu1 : ccn8 + zw1 = uc := by omega
        replace hu2 : csn8 + zw2 = us := by omega
        clear eccn8 ecsn8
        refine lv_astore_n (lv' := [(2, .ref (ad31_7 r31)), (0, .ref (ad31_7 this)), (1, .ref (ad31_7 p0))]) hx hb dX4_readLaw_34 rfl hl (by decide) rfl (fun ls hl => ?_)
        refine lv_aload_n hx hb dX4_readLaw_35 rfl (lv_at hl 1 rfl) ?_
        replace hr := b8S hr
        obtain ⟨r36z, c36_G80, c36_G81, c36_G84, c36_G85, c36_G86, c36_G87, c36_G88, hc36, hr⟩ := hr
        have hFc := fr_all hD hS hA
        obtain ⟨i9, hi9⟩ := hW.o4 hk7_this
        refine va_calli (va_runV (As := []) (rest := []) ⟨hx, hb, hml, hown, hts⟩ (m_X4_takeTo l dC dI adK adV kk ad31_7 H.size w7 c31_G c31_P c31_U c31_V c31_X c31_O c31_kd c31_ln c31_cnt this hk7_this hW hT r36z c36_G80 c36_G81 c36_G84 c36_G85 c36_G86 c36_G87 c36_G88 hc36) (cwV 0 hts gc_RX4_X4_takeTo_108 rfl rfl rfl (by decide +kernel) ⟨Nat.le_of_ble_eq_true rfl, Nat.le_of_ble_eq_true rfl⟩) ⟨fun a U g mk q => by obtain ⟨q0, q1, qP, qK, qD, qS⟩ := q; exact ⟨q0, q1, qP, va_K.moved (u := U) (U := U.calling g mk a) (Vm.Alike.refl U.vm) qK, qD, qS.calling⟩, va_recv hK hP (ci := 4) (q0 := i9) rfl hi9, fun U hU hW => ⟨rfl, by rw [hU], by rw [hU]; exact hP, va_K.moved hW.alike hK, hD.weaken (fun _ _ _ _ => trivial), (hSE.warm hS hU hW).narrow hFc⟩⟩ rfl rfl hl.1 rfl (lv_room (Nat.le_of_ble_eq_true rfl)) dX4_readLaw_36 ⟨(by show _ ≤ uc; omega), (by show _ ≤ us; omega)⟩) hS (fun q _ h => hFc q h) hFc (fun r36 w10 t H1 locs ht hvm hw hB hz1 hk1 hS => ?_)
        obtain ⟨hw0, hW, hT⟩ := hw
        replace hw0 : r36 = r36z := hw0
        subst hw0
        obtain ⟨hP1, hK1, hD1⟩ := hB
        rw [ht] at hP1
        obtain ⟨hP, hD⟩ := jn_all (w1 := w10) hFc hP1 hD1
        replace hP : va_P (dC, dI) vwCl w10 H1 := hP
        replace hD : va_D A w10 := hD
        clear hFc hP1 hK1 hD1 hk1 hz1 ht hvm
        generalize H1 = H at hP hS ⊢
        replace hr := jnS hr
        obtain ⟨j50, hj50, hr⟩ := hr
        have Jj50 : ∀ (c50_G80 : Nat → Int32) (c50_G81 : Nat → Int32) (c50_G84 : Nat → Int32) (c50_G85 : Nat → Int32) (c50_G86 : Nat → Int32) (c50_G87 : Nat → Int32) (c50_G88 : Nat → Int32) (ad31_7 : Nat → Nat) (ws : va_W) (H : Heap) (locs : List Loc) (ls : Array Slot) (cc cs u1 u2 : Nat), j50 c50_G80 c50_G81 c50_G84 c50_G85 c50_G86 c50_G87 c50_G88 = some ((c_G, c_P, c_U, c_V, c_X, c_O, c_kd, c_ln, c_cnt), u1, u2) → cc + u1 = uc → cs + u2 = us → adEx kd ad c31_kd ad31_7 → LW ws ad31_7 kk c31_kd c31_ln (va_up (va_up (va_up (va_up (va_up (va_up (va_up c31_G 80 c50_G80) 81 c50_G81) 84 c50_G84) 85 c50_G85) 86 c50_G86) 87 c50_G87) 88 c50_G88) c31_P c31_U c31_V c31_X c31_O → TYP c31_kd c31_P c31_O (c31_V 0) c31_cnt → va_P (dC, dI) vwCl ws H → va_D A ws → va_S A s.heap H locs → lv_has ls 5 [] → W p l e ({ frames := 8, cells := uc, slots := us, locals := 383 } : Room) s m args below meth c H locs cc cs Q (F0 m 50 ls []) := by
          intro c50_G80 c50_G81 c50_G84 c50_G85 c50_G86 c50_G87 c50_G88 ad31_7 ws H locs ls cc cs u1 u2 hr hu1 hu2 hE hW hT hP hD hS hl
          rw [hj50] at hr
          replace hr := retS hr
          obtain ⟨hr, hv1, hv2⟩ := hr
          refine W.widen (k := uc) (n := us) (by omega) (by omega) ?_
          exact K 50 ls _ _ _ _ _ _ _ _ _ ad31_7 ws H _ hr dX4_readLaw_50 hE hW hT hP hD hS
        refine lv_if_eq (tgt := 50) hx hb dX4_readLaw_39 (by decide) (fun c39 => ?_) (fun c39 => ?_)
        · replace hr := iteT c39 hr
          exact Jj50 c36_G80 c36_G81 c36_G84 c36_G85 c36_G86 c36_G87 c36_G88 ad31_7 w10 H _ ls ccn8 csn8 _ _ hr hu1 hu2 hE hW hT hP hD hS (lv_sub hl [] rfl)
        · replace hr := iteF c39 hr
          refine lv_aload_n hx hb dX4_readLaw_42 rfl (lv_at hl 1 rfl) ?_
          refine lv_iconst (v := 1) hx hb dX4_readLaw_43 (by decide +kernel) ?_
          replace hr := b8S hr
          obtain ⟨r44z, c44_G80, c44_G81, c44_G84, c44_G85, c44_G86, c44_G87, c44_G88, hc44, hr⟩ := hr
          have hFc := fr_all hD hS hA
          obtain ⟨i11, hi11⟩ := hW.o4 hk7_this
          refine va_calli (va_runV (As := [.int 1]) (rest := []) ⟨hx, hb, hml, hown, hts⟩ (m_X4_takeLetters l dC dI kk ad31_7 H.size w10 (va_up (va_up (va_up (va_up (va_up (va_up (va_up c31_G 80 c36_G80) 81 c36_G81) 84 c36_G84) 85 c36_G85) 86 c36_G86) 87 c36_G87) 88 c36_G88) c31_P c31_U c31_V c31_X c31_O c31_kd c31_ln c31_cnt this 1 hk7_this hW hT r44z c44_G80 c44_G81 c44_G84 c44_G85 c44_G86 c44_G87 c44_G88 hc44) (cwV 1 hts gc_RX4_X4_takeLetters_111 rfl rfl rfl (by decide +kernel) ⟨Nat.le_of_ble_eq_true rfl, Nat.le_of_ble_eq_true rfl⟩) ⟨fun a U g mk q => by obtain ⟨q0, q1, qP, qK, qD⟩ := q; exact ⟨q0, q1, qP, va_K.moved (u := U) (U := U.calling g mk a) (Vm.Alike.refl U.vm) qK, qD⟩, va_recv hK hP (ci := 4) (q0 := i11) rfl hi11, fun U hU hW => ⟨rfl, by rw [hU], by rw [hU]; exact hP, va_K.moved hW.alike hK, hD.weaken (fun _ _ _ _ => trivial)⟩⟩ rfl rfl hl.1 rfl (lv_room (Nat.le_of_ble_eq_true rfl)) dX4_readLaw_44 ⟨(by show _ ≤ uc; omega), (by show _ ≤ us; omega)⟩) hS (fun q _ h => hFc q h) hFc (fun r44 w12 t H1 locs ht hvm hw hB hz1 hk1 hS => ?_)
          obtain ⟨hw0, hW, hT⟩ := hw
          replace hw0 : r44 = r44z := hw0
          subst hw0
          obtain ⟨hP1, hK1, hD1⟩ := hB
          rw [ht] at hP1
          obtain ⟨hP, hD⟩ := jn_all (w1 := w12) hFc hP1 hD1
          replace hP : va_P (dC, dI) vwCl w12 H1 := hP
          replace hD : va_D A w12 := hD
          clear hFc hP1 hK1 hD1 hk1 hz1 ht hvm
          generalize H1 = H at hP hS ⊢
          refine lv_if_ne (tgt := 51) hx hb dX4_readLaw_47 (by decide) (fun c47 => ?_) (fun c47 => ?_)
          · replace hr := iteF c47 hr
            replace hr := tkS hr
            obtain ⟨zw1, zw2, hr, hq1, hq2⟩ := hr
            refine va_new (ci := 1) (fs := [.null, .null, .null, .null, .int 0, .int 0]) (C := RX1) (T := TX1) (N := 6) hx hb hts inX1 tyX1 tyX1_ok hown (hts (.classLink RX4 130 RX1) ic_534) (hts (.instantiable RX1 6) ic_535) (hts (.initialized RX1) ic_286) hK hP hD hS hA rfl (fun j hj => match j, hj with | 0, _ => rfl | 1, _ => rfl | 2, _ => rfl | 3, _ => rfl | 4, _ => rfl | 5, _ => rfl | j + 6, hj => absurd hj (by omega)) (by show _ ≤ uc; omega) (by show _ ≤ us; omega) dX4_readLaw_51 (fun q51 H hP2 hD2 hS => ?_)
            replace hr := newcS hr hW hT hD2 (by decide) (fun _ => rfl)
            obtain ⟨G51, P51, U51, V51, X51, O51, kd51, ln51, cnt51, ad51, hr, hW, hT, hE2, hk_n51, hqa⟩ := hr
            subst hqa
            obtain ⟨w13, hP, hD, hW⟩ : ∃ w : va_W, va_P (dC, dI) vwCl w H ∧ va_D A w ∧ LW w ad51 kk kd51 ln51 G51 P51 U51 V51 X51 O51 := ⟨_, hP2, hD2, hW⟩
            clear hP2 hD2
            have ea_this : ad31_7 this = ad51 this := (hE2.1 this (by rw [hk7_this]; decide)).symm
            have hk13_this := (hE2.2 this (by rw [hk7_this]; decide)).trans hk7_this
            have ea_p0 : ad31_7 p0 = ad51 p0 := (hE2.1 p0 (by rw [hk7_p0]; decide)).symm
            have hk13_p0 := (hE2.2 p0 (by rw [hk7_p0]; decide)).trans hk7_p0
            have ea_r31 : ad31_7 r31 = ad51 r31 := (hE2.1 r31 (by rw [hkr31]; decide)).symm
            have hk13_r31 := (hE2.2 r31 (by rw [hkr31]; decide)).trans hkr31
            rw [ea_this, ea_p0, ea_r31] at hl
            clear ea_this ea_p0 ea_r31
            replace hE := adE hE hE2
            clear hE2
            obtain ⟨ccn14, eccn14⟩ : ∃ y : Nat, y = (ccn8 + 1) := ⟨_, rfl⟩
            obtain ⟨csn14, ecsn14⟩ : ∃ y : Nat, y = (csn8 + 6) := ⟨_, rfl⟩
            refine W.widen (k := ccn14) (n := csn14) (Nat.le_of_eq eccn14.symm) (Nat.le_of_eq ecsn14.symm) ?_
            replace hu1 : ccn14 + zw1 = uc := by omega
            replace hu2 : csn14 + zw2 = us := by omega
            clear eccn14 ecsn14
            refine lv_dup hx hb dX4_readLaw_54 rfl ?_
            refine lv_aload_n hx hb dX4_readLaw_55 rfl (lv_at hl 0 rfl) ?_
            refine lv_aload_n hx hb dX4_readLaw_56 rfl (lv_at hl 1 rfl) ?_
            replace hr := bA10S hr
            obtain ⟨r57, c57_G, c57_P, c57_U, c57_V, c57_X, c57_O, c57_kd, c57_ln, c57_cnt, zv1, zv2, zw1, zw2, hc57, hr, hq1, hq2⟩ := hr
            have hFc := fr_all hD hS hA
            obtain ⟨i15, hi15⟩ := hW.o4 hk13_this
            refine va_callr (va_runV (As := []) (rest := [.ref (ad51 r31), .ref (ad51 c31_cnt), .ref (ad51 c31_cnt)]) ⟨hx, hb, hml, hown, hts⟩ (m_X4_letters l dC dI kk ad51 H.size w13 G51 P51 U51 V51 X51 O51 kd51 ln51 cnt51 this hk13_this hW hT r57 c57_G c57_P c57_U c57_V c57_X c57_O c57_kd c57_ln c57_cnt zv1 zv2 hc57) (cwV 0 hts gc_RX4_X4_letters_126 rfl rfl rfl (by decide +kernel) ⟨Nat.le_of_ble_eq_true rfl, Nat.le_of_ble_eq_true rfl⟩) ⟨fun a U g mk q => by obtain ⟨q0, q1, qP, qK, qD⟩ := q; exact ⟨q0, q1, qP, va_K.moved (u := U) (U := U.calling g mk a) (Vm.Alike.refl U.vm) qK, qD⟩, va_recv hK hP (ci := 4) (q0 := i15) rfl hi15, fun U hU hW => ⟨rfl, by rw [hU], by rw [hU]; exact hP, va_K.moved hW.alike hK, hD.weaken (fun _ _ _ _ => trivial)⟩⟩ rfl rfl hl.1 rfl (lv_room (Nat.le_of_ble_eq_true rfl)) dX4_readLaw_57 ⟨(by show _ ≤ uc; omega), (by show _ ≤ us; omega)⟩) hS (fun q _ h => hFc q h) hFc (fun w16 ra57 t H1 locs ht hvm hw hB hz1 hk1 hS => ?_)
            obtain ⟨w16, ad57_16⟩ := w16
            dsimp only at hw hB
            obtain ⟨hW, hT, hkr57, hE2⟩ := hw
            obtain ⟨hra, hP1, hK1, hD1⟩ := hB
            subst hra
            rw [ht] at hP1
            obtain ⟨hP, hD⟩ := jn_all (w1 := w16) hFc hP1 hD1
            replace hP : va_P (dC, dI) vwCl w16 H1 := hP
            replace hD : va_D A w16 := hD
            clear hFc hP1 hK1 hD1 hk1 hz1 ht hvm
            generalize H1 = H at hP hS ⊢
            have ea_this : ad51 this = ad57_16 this := (hE2.1 this (by rw [hk13_this]; decide)).symm
            have hk16_this := (hE2.2 this (by rw [hk13_this]; decide)).trans hk13_this
            have ea_p0 : ad51 p0 = ad57_16 p0 := (hE2.1 p0 (by rw [hk13_p0]; decide)).symm
            have hk16_p0 := (hE2.2 p0 (by rw [hk13_p0]; decide)).trans hk13_p0
            have ea_r31 : ad51 r31 = ad57_16 r31 := (hE2.1 r31 (by rw [hk13_r31]; decide)).symm
            have hk16_r31 := (hE2.2 r31 (by rw [hk13_r31]; decide)).trans hk13_r31
            have ea_c31_cnt : ad51 c31_cnt = ad57_16 c31_cnt := (hE2.1 c31_cnt (by rw [hk_n51]; decide)).symm
            have hk16_c31_cnt := (hE2.2 c31_cnt (by rw [hk_n51]; decide)).trans hk_n51
            rw [ea_this, ea_p0, ea_r31] at hl
            rw [ea_r31, ea_c31_cnt]
            clear ea_this ea_p0 ea_r31 ea_c31_cnt
            replace hE := adE hE hE2
            clear hE2
            obtain ⟨ccn17, eccn17⟩ : ∃ y : Nat, y = (ccn14 + zv1) := ⟨_, rfl⟩
            obtain ⟨csn17, ecsn17⟩ : ∃ y : Nat, y = (csn14 + zv2) := ⟨_, rfl⟩
            refine W.widen (k := ccn17) (n := csn17) (Nat.le_of_eq eccn17.symm) (Nat.le_of_eq ecsn17.symm) ?_
            replace hu1 : ccn17 + zw1 = uc := by omega
            replace hu2 : csn17 + zw2 = us := by omega
            clear eccn17 ecsn17
            replace hr := bA9S hr
            obtain ⟨c60_G, c60_P, c60_U, c60_V, c60_X, c60_O, c60_kd, c60_ln, c60_cnt, zv1, zv2, zw1, zw2, hc60, hr, hq1, hq2⟩ := hr
            have hFc := fr_all hD hS hA
            refine va_callv (va_runI (As := [.ref (ad57_16 r31), .ref (ad57_16 r57)]) (rest := [.ref (ad57_16 c31_cnt)]) ⟨hx, hb, hml, hown, hts⟩ (m_X1_init l dC dI kk ad57_16 H.size w16 c57_G c57_P c57_U c57_V c57_X c57_O c57_kd c57_ln c57_cnt c31_cnt r31 r57 hk16_c31_cnt hk16_r31 hkr57 hW hT c60_G c60_P c60_U c60_V c60_X c60_O c60_kd c60_ln c60_cnt zv1 zv2 hc60) (cwI 2 hts (lwC_code ic_498) rfl rfl rfl (hts (.initialized RX1) ic_286) (hts (.methodLink RX4 132 yX1_init) ic_536) (hts (.instanceMethod yX1_init) ic_537) rfl (by decide +kernel) ⟨Nat.le_of_ble_eq_true rfl, Nat.le_of_ble_eq_true rfl⟩) ⟨fun a U g mk q => by obtain ⟨q0, q1, qP, qK, qD⟩ := q; exact ⟨q0, q1, qP, va_K.moved (u := U) (U := U.calling g mk a) (Vm.Alike.refl U.vm) qK, qD⟩, fun U hU hW => ⟨rfl, by rw [hU], by rw [hU]; exact hP, va_K.moved hW.alike hK, hD.weaken (fun _ _ _ _ => trivial)⟩⟩ rfl rfl hl.1 rfl (lv_room (Nat.le_of_ble_eq_true rfl)) dX4_readLaw_60 ⟨(by show _ ≤ uc; omega), (by show _ ≤ us; omega)⟩) hS (fun q _ h => hFc q h) hFc (fun w18 t H1 locs ht hvm hw hB hz1 hk1 hS => ?_)
            obtain ⟨w18, ad60_18⟩ := w18
            dsimp only at hw hB
            obtain ⟨hW, hT, hE2⟩ := hw
            obtain ⟨hP1, hK1, hD1⟩ := hB
            rw [ht] at hP1
            obtain ⟨hP, hD⟩ := jn_all (w1 := w18) hFc hP1 hD1
            replace hP : va_P (dC, dI) vwCl w18 H1 := hP
            replace hD : va_D A w18 := hD
            clear hFc hP1 hK1 hD1 hk1 hz1 ht hvm
            generalize H1 = H at hP hS ⊢
            have ea_this : ad57_16 this = ad60_18 this := (hE2.1 this (by rw [hk16_this]; decide)).symm
            have hk18_this := (hE2.2 this (by rw [hk16_this]; decide)).trans hk16_this
            have ea_p0 : ad57_16 p0 = ad60_18 p0 := (hE2.1 p0 (by rw [hk16_p0]; decide)).symm
            have hk18_p0 := (hE2.2 p0 (by rw [hk16_p0]; decide)).trans hk16_p0
            have ea_r31 : ad57_16 r31 = ad60_18 r31 := (hE2.1 r31 (by rw [hk16_r31]; decide)).symm
            have hk18_r31 := (hE2.2 r31 (by rw [hk16_r31]; decide)).trans hk16_r31
            have ea_c31_cnt : ad57_16 c31_cnt = ad60_18 c31_cnt := (hE2.1 c31_cnt (by rw [hk16_c31_cnt]; decide)).symm
            have hk18_c31_cnt := (hE2.2 c31_cnt (by rw [hk16_c31_cnt]; decide)).trans hk16_c31_cnt
            rw [ea_this, ea_p0, ea_r31] at hl
            rw [ea_c31_cnt]
            clear ea_this ea_p0 ea_r31 ea_c31_cnt
            replace hE := adE hE hE2
            clear hE2
            obtain ⟨ccn19, eccn19⟩ : ∃ y : Nat, y = (ccn17 + zv1) := ⟨_, rfl⟩
            obtain ⟨csn19, ecsn19⟩ : ∃ y : Nat, y = (csn17 + zv2) := ⟨_, rfl⟩
            refine W.widen (k := ccn19) (n := csn19) (Nat.le_of_eq eccn19.symm) (Nat.le_of_eq ecsn19.symm) ?_
            replace hu1 : ccn19 + zw1 = uc := by omega
            replace hu2 : csn19 + zw2 = us := by omega
            clear eccn19 ecsn19
            refine lv_astore_n (lv' := [(3, .ref (ad60_18 c31_cnt)), (2, .ref (ad60_18 r31)), (0, .ref (ad60_18 this)), (1, .ref (ad60_18 p0))]) hx hb dX4_readLaw_63 rfl hl (by decide) rfl (fun ls hl => ?_)
            refine lv_iconst (v := 0) hx hb dX4_readLaw_64 (by decide +kernel) ?_
            refine lv_istore (lv' := [(4, .int 0), (3, .ref (ad60_18 c31_cnt)), (2, .ref (ad60_18 r31)), (0, .ref (ad60_18 this)), (1, .ref (ad60_18 p0))]) hx hb dX4_readLaw_65 hl (by decide) rfl (fun ls hl => ?_)
            replace hr := jnS hr
            obtain ⟨k109, hk109, hr⟩ := hr
            have Jk109 : ∀ (c109_G : Nat → Nat → Int32) (c109_P : Nat → Nat → Option Nat) (c109_U : Nat → Nat → Int64) (c109_V : Nat → Nat → Nat → Int32) (c109_X : Nat → Nat → Nat → Int64) (c109_O : Nat → Nat → Nat → Option Nat) (c109_kd : Nat → Nat) (c109_ln : Nat → Nat) (c109_cnt : Nat) (ad109 : Nat → Nat) (ws : va_W) (H : Heap) (locs : List Loc) (ls : Array Slot) (cc cs u1 u2 : Nat), k109 c109_G c109_P c109_U c109_V c109_X c109_O c109_kd c109_ln c109_cnt = some ((c_G, c_P, c_U, c_V, c_X, c_O, c_kd, c_ln, c_cnt), u1, u2) → cc + u1 = uc → cs + u2 = us → adEx kd ad c109_kd ad109 → LW ws ad109 kk c109_kd c109_ln c109_G c109_P c109_U c109_V c109_X c109_O → TYP c109_kd c109_P c109_O (c109_V 0) c109_cnt → va_P (dC, dI) vwCl ws H → va_D A ws → va_S A s.heap H locs → lv_has ls 5 [] → W p l e ({ frames := 8, cells := uc, slots := us, locals := 383 } : Room) s m args below meth c H locs cc cs Q (F0 m 109 ls []) := by
              intro c109_G c109_P c109_U c109_V c109_X c109_O c109_kd c109_ln c109_cnt ad109 ws H locs ls cc cs u1 u2 hr hu1 hu2 hE hW hT hP hD hS hl
              rw [hk109] at hr
              replace hr := retS hr
              obtain ⟨hr, hv1, hv2⟩ := hr
              refine W.widen (k := uc) (n := us) (by omega) (by omega) ?_
              exact K 109 ls _ _ _ _ _ _ _ _ _ ad109 ws H _ hr dX4_readLaw_109 hE hW hT hP hD hS
            have lp67 : ∀ (n67 : Nat), ∀ (y67_4 : Int32) (d67_G : Nat → Nat → Int32) (d67_P : Nat → Nat → Option Nat) (d67_U : Nat → Nat → Int64) (d67_V : Nat → Nat → Nat → Int32) (d67_X : Nat → Nat → Nat → Int64) (d67_O : Nat → Nat → Nat → Option Nat) (d67_kd : Nat → Nat) (d67_ln : Nat → Nat) (d67_cnt : Nat) (ad67 : Nat → Nat) (ws : va_W) (H : Heap) (locs : List Loc) (ls : Array Slot) (cc cs u1 u2 : Nat), L_X4_readLaw_67 this p0 c31_cnt k109 n67 y67_4 d67_G d67_P d67_U d67_V d67_X d67_O d67_kd d67_ln d67_cnt = some ((c_G, c_P, c_U, c_V, c_X, c_O, c_kd, c_ln, c_cnt), u1, u2) → cc + u1 = uc → cs + u2 = us → adEx kd ad d67_kd ad67 → LW ws ad67 kk d67_kd d67_ln d67_G d67_P d67_U d67_V d67_X d67_O → TYP d67_kd d67_P d67_O (d67_V 0) d67_cnt → va_P (dC, dI) vwCl ws H → va_D A ws → va_S A s.heap H locs → lv_has ls 5 [(0, .ref (ad67 this)), (1, .ref (ad67 p0)), (3, .ref (ad67 c31_cnt)), (4, .int y67_4)] → d67_kd this = 5 → d67_kd p0 = 6 → d67_kd c31_cnt = 2 → W p l e ({ frames := 8, cells := uc, slots := us, locals := 383 } : Room) s m args below meth c H locs cc cs Q (F0 m 67 ls []) := by
              intro n67
              induction n67 with
              | zero => intro y67_4 d67_G d67_P d67_U d67_V d67_X d67_O d67_kd d67_ln d67_cnt ad67 ws H locs ls cc cs u1 u2 hr hu1 hu2 hE hW hT hP hD hS hl hk18_thisn67 hk18_p0n67 hk18_c31_cntn67; exact nomatch (show none = some ((c_G, c_P, c_U, c_V, c_X, c_O, c_kd, c_ln, c_cnt), u1, u2) from hr)
              | succ n67 ih67 =>
                intro y67_4 d67_G d67_P d67_U d67_V d67_X d67_O d67_kd d67_ln d67_cnt ad67 ws H locs ls cc cs u1 u2 hr hu1 hu2 hE hW hT hP hD hS hl hk18_thisn67 hk18_p0n67 hk18_c31_cntn67
                replace hr : B_X4_readLaw_67 this p0 c31_cnt k109 (L_X4_readLaw_67 this p0 c31_cnt k109 n67) y67_4 d67_G d67_P d67_U d67_V d67_X d67_O d67_kd d67_ln d67_cnt = some ((c_G, c_P, c_U, c_V, c_X, c_O, c_kd, c_ln, c_cnt), u1, u2) := hr
                unfold B_X4_readLaw_67 at hr
                refine lv_iload hx hb dX4_readLaw_67 (lv_at hl 3 rfl) ?_
                refine lv_iconst (v := 5) hx hb dX4_readLaw_69 (by decide +kernel) ?_
                refine lv_icmp_ge (tgt := 109) hx hb dX4_readLaw_70 (by decide) (fun c70 => ?_) (fun c70 => ?_)
                · replace hr := iteT c70 hr
                  exact Jk109 d67_G d67_P d67_U d67_V d67_X d67_O d67_kd d67_ln d67_cnt ad67 ws H _ ls cc cs _ _ hr hu1 hu2 hE hW hT hP hD hS (lv_sub hl [] rfl)
                · replace hr := iteF c70 hr
                  refine lv_aload_n hx hb dX4_readLaw_73 rfl (lv_at hl 0 rfl) ?_
                  obtain ⟨i20, hi20⟩ := hW.o4 hk18_thisn67
                  refine va_get (D := (dC, dI)) (ci := 4) (v := .int ((d67_G 80) this)) (C := RX4) (T := TX4) (N := 9) hx hb hts inX4 hown hK hP i20 hi20 rfl 0 (by decide) (hts (.fieldLink RX4 9 "SpellTurner$Reader" "faultKind" "I") ic_370) (fun _ h9 => h9) rfl dX4_readLaw_74 ?_
                  refine lv_if_ne (tgt := 109) hx hb dX4_readLaw_77 (by decide) (fun c77 => ?_) (fun c77 => ?_)
                  · replace hr := iteF c77 hr
                    exact Jk109 d67_G d67_P d67_U d67_V d67_X d67_O d67_kd d67_ln d67_cnt ad67 ws H _ ls cc cs _ _ hr hu1 hu2 hE hW hT hP hD hS (lv_sub hl [] rfl)
                  · replace hr := iteT c77 hr
                    refine lv_aload_n hx hb dX4_readLaw_80 rfl (lv_at hl 0 rfl) ?_
                    replace hr := b5S hr
                    obtain ⟨c81_G84, c81_G85, c81_G86, c81_G87, c81_G88, hc81, hr⟩ := hr
                    have hFc := fr_all hD hS hA
                    obtain ⟨i21, hi21⟩ := hW.o4 hk18_thisn67
                    refine va_callv (va_runV (As := []) (rest := []) ⟨hx, hb, hml, hown, hts⟩ (m_X4_nextToken l dC dI kk ad67 H.size ws d67_G d67_P d67_U d67_V d67_X d67_O d67_kd d67_ln d67_cnt this hk18_thisn67 hW hT c81_G84 c81_G85 c81_G86 c81_G87 c81_G88 hc81) (cwV 0 hts gc_RX4_X4_nextToken_46 rfl rfl rfl (by decide +kernel) ⟨Nat.le_of_ble_eq_true rfl, Nat.le_of_ble_eq_true rfl⟩) ⟨fun a U g mk q => by obtain ⟨q0, q1, qP, qK, qD⟩ := q; exact ⟨q0, q1, qP, va_K.moved (u := U) (U := U.calling g mk a) (Vm.Alike.refl U.vm) qK, qD⟩, va_recv hK hP (ci := 4) (q0 := i21) rfl hi21, fun U hU hW => ⟨rfl, by rw [hU], by rw [hU]; exact hP, va_K.moved hW.alike hK, hD.weaken (fun _ _ _ _ => trivial)⟩⟩ rfl rfl hl.1 rfl (lv_room (Nat.le_of_ble_eq_true rfl)) dX4_readLaw_81 ⟨(by show _ ≤ uc; omega), (by show _ ≤ us; omega)⟩) hS (fun q _ h => hFc q h) hFc (fun w22 t H1 locs ht hvm hw hB hz1 hk1 hS => ?_)
                    obtain ⟨hW, hT⟩ := hw
                    obtain ⟨hP1, hK1, hD1⟩ := hB
                    rw [ht] at hP1
                    obtain ⟨hP, hD⟩ := jn_all (w1 := w22) hFc hP1 hD1
                    replace hP : va_P (dC, dI) vwCl w22 H1 := hP
                    replace hD : va_D A w22 := hD
                    clear hFc hP1 hK1 hD1 hk1 hz1 ht hvm
                    generalize H1 = H at hP hS ⊢
                    refine lv_aload_n hx hb dX4_readLaw_84 rfl (lv_at hl 0 rfl) ?_
                    obtain ⟨i23, hi23⟩ := hW.o4 hk18_thisn67
                    refine va_get (D := (dC, dI)) (ci := 4) (v := .int (c81_G85 this)) (C := RX4) (T := TX4) (N := 9) hx hb hts inX4 hown hK hP i23 hi23 rfl 5 (by decide) (hts (.fieldLink RX4 28 "SpellTurner$Reader" "token" "I") ic_360) (fun _ h9 => h9) rfl dX4_readLaw_85 ?_
                    refine lv_iconst (v := 3) hx hb dX4_readLaw_88 (by decide +kernel) ?_
                    refine lv_icmp_ne (tgt := 98) hx hb dX4_readLaw_89 (by decide) (fun c89 => ?_) (fun c89 => ?_)
                    · replace hr := iteF c89 hr
                      refine lv_aload_n hx hb dX4_readLaw_98 rfl (lv_at hl 0 rfl) ?_
                      refine lv_aload_n hx hb dX4_readLaw_99 rfl (lv_at hl 2 rfl) ?_
                      replace hr := bA9S hr
                      obtain ⟨c100_G, c100_P, c100_U, c100_V, c100_X, c100_O, c100_kd, c100_ln, c100_cnt, zv1, zv2, zw1, zw2, hc100, hr, hq1, hq2⟩ := hr
                      have hFc := fr_all hD hS hA
                      obtain ⟨i24, hi24⟩ := hW.o4 hk18_thisn67
                      refine va_callv (va_runV (As := [.ref (ad67 c31_cnt)]) (rest := []) ⟨hx, hb, hml, hown, hts⟩ (m_X4_readSide l dC dI adK adV kk ad67 H.size w22 (va_up (va_up (va_up (va_up (va_up d67_G 84 c81_G84) 85 c81_G85) 86 c81_G86) 87 c81_G87) 88 c81_G88) d67_P d67_U d67_V d67_X d67_O d67_kd d67_ln d67_cnt this c31_cnt hk18_thisn67 hk18_c31_cntn67 hW hT c100_G c100_P c100_U c100_V c100_X c100_O c100_kd c100_ln c100_cnt zv1 zv2 hc100) (cwV 1 hts gc_RX4_X4_readSide_139 rfl rfl rfl (by decide +kernel) ⟨Nat.le_of_ble_eq_true rfl, Nat.le_of_ble_eq_true rfl⟩) ⟨fun a U g mk q => by obtain ⟨q0, q1, qP, qK, qD, qS⟩ := q; exact ⟨q0, q1, qP, va_K.moved (u := U) (U := U.calling g mk a) (Vm.Alike.refl U.vm) qK, qD, qS.calling⟩, va_recv hK hP (ci := 4) (q0 := i24) rfl hi24, fun U hU hW => ⟨rfl, by rw [hU], by rw [hU]; exact hP, va_K.moved hW.alike hK, hD.weaken (fun _ _ _ _ => trivial), (hSE.warm hS hU hW).narrow hFc⟩⟩ rfl rfl hl.1 rfl (lv_room (Nat.le_of_ble_eq_true rfl)) dX4_readLaw_100 ⟨(by show _ ≤ uc; omega), (by show _ ≤ us; omega)⟩) hS (fun q _ h => hFc q h) hFc (fun w25 t H1 locs ht hvm hw hB hz1 hk1 hS => ?_)
                      obtain ⟨w25, ad100_25⟩ := w25
                      dsimp only at hw hB
                      obtain ⟨hW, hT, hE2⟩ := hw
                      obtain ⟨hP1, hK1, hD1⟩ := hB
                      rw [ht] at hP1
                      obtain ⟨hP, hD⟩ := jn_all (w1 := w25) hFc hP1 hD1
                      replace hP : va_P (dC, dI) vwCl w25 H1 := hP
                      replace hD : va_D A w25 := hD
                      clear hFc hP1 hK1 hD1 hk1 hz1 ht hvm
                      generalize H1 = H at hP hS ⊢
                      have ea_this : ad67 this = ad100_25 this := (hE2.1 this (by rw [hk18_thisn67]; decide)).symm
                      have hk25_this := (hE2.2 this (by rw [hk18_thisn67]; decide)).trans hk18_thisn67
                      have ea_p0 : ad67 p0 = ad100_25 p0 := (hE2.1 p0 (by rw [hk18_p0n67]; decide)).symm
                      have hk25_p0 := (hE2.2 p0 (by rw [hk18_p0n67]; decide)).trans hk18_p0n67
                      have ea_c31_cnt : ad67 c31_cnt = ad100_25 c31_cnt := (hE2.1 c31_cnt (by rw [hk18_c31_cntn67]; decide)).symm
                      have hk25_c31_cnt := (hE2.2 c31_cnt (by rw [hk18_c31_cntn67]; decide)).trans hk18_c31_cntn67
                      rw [ea_this, ea_p0, ea_c31_cnt] at hl
                      clear ea_this ea_p0 ea_c31_cnt
                      replace hE := adE hE hE2
                      clear hE2
                      obtain ⟨ccn26, eccn26⟩ : ∃ y : Nat, y = (cc + zv1) := ⟨_, rfl⟩
                      obtain ⟨csn26, ecsn26⟩ : ∃ y : Nat, y = (cs + zv2) := ⟨_, rfl⟩
                      refine W.widen (k := ccn26) (n := csn26) (Nat.le_of_eq eccn26.symm) (Nat.le_of_eq ecsn26.symm) ?_
                      replace hu1 : ccn26 + zw1 = uc := by omega
                      replace hu2 : csn26 + zw2 = us := by omega
                      clear eccn26 ecsn26
                      refine lv_iinc (v := (y67_4 + 1)) (lv' := [(4, .int (y67_4 + 1)), (0, .ref (ad100_25 this)), (1, .ref (ad100_25 p0)), (3, .ref (ad100_25 c31_cnt))]) hx hb dX4_readLaw_103 hl (k := 3) rfl rfl (by decide) rfl (fun ls hl => ?_)
                      refine lv_goto (tgt := 67) hx hb dX4_readLaw_106 (by decide) ?_
                      exact ih67 (y67_4 + 1) c100_G c100_P c100_U c100_V c100_X c100_O c100_kd c100_ln c100_cnt ad100_25 w25 H _ ls ccn26 csn26 _ _ hr hu1 hu2 hE hW hT hP hD hS (lv_sub hl [1, 2, 3, 0] rfl) hk25_this hk25_p0 hk25_c31_cnt
                    · replace hr := iteT c89 hr
                      refine lv_aload_n hx hb dX4_readLaw_92 rfl (lv_at hl 1 rfl) ?_
                      refine lv_aload_n hx hb dX4_readLaw_93 rfl (lv_at hl 2 rfl) ?_
                      replace hr := b2S hr
                      obtain ⟨c94_G102, c94_O0, hc94, hr⟩ := hr
                      have hFc := fr_all hD hS hA
                      obtain ⟨i27, hi27⟩ := hW.o5 hk18_p0n67
                      refine va_callv (va_runV (As := [.ref (ad67 c31_cnt)]) (rest := []) ⟨hx, hb, hml, hown, hts⟩ (m_X5_addLaw l dC dI kk ad67 H.size w22 (va_up (va_up (va_up (va_up (va_up d67_G 84 c81_G84) 85 c81_G85) 86 c81_G86) 87 c81_G87) 88 c81_G88) d67_P d67_U d67_V d67_X d67_O d67_kd d67_ln d67_cnt p0 c31_cnt hk18_p0n67 hk18_c31_cntn67 hW hT c94_G102 c94_O0 hc94) (cwV 1 hts gc_RX4_X5_addLaw_135 rfl rfl rfl (by decide +kernel) ⟨Nat.le_of_ble_eq_true rfl, Nat.le_of_ble_eq_true rfl⟩) ⟨fun a U g mk q => by obtain ⟨q0, q1, qP, qK, qD⟩ := q; exact ⟨q0, q1, qP, va_K.moved (u := U) (U := U.calling g mk a) (Vm.Alike.refl U.vm) qK, qD⟩, va_recv hK hP (ci := 5) (q0 := i27) rfl hi27, fun U hU hW => ⟨rfl, by rw [hU], by rw [hU]; exact hP, va_K.moved hW.alike hK, hD.weaken (fun _ _ _ _ => trivial)⟩⟩ rfl rfl hl.1 rfl (lv_room (Nat.le_of_ble_eq_true rfl)) dX4_readLaw_94 ⟨(by show _ ≤ uc; omega), (by show _ ≤ us; omega)⟩) hS (fun q _ h => hFc q h) hFc (fun w28 t H1 locs ht hvm hw hB hz1 hk1 hS => ?_)
                      obtain ⟨hW, hT⟩ := hw
                      obtain ⟨hP1, hK1, hD1⟩ := hB
                      rw [ht] at hP1
                      obtain ⟨hP, hD⟩ := jn_all (w1 := w28) hFc hP1 hD1
                      replace hP : va_P (dC, dI) vwCl w28 H1 := hP
                      replace hD : va_D A w28 := hD
                      clear hFc hP1 hK1 hD1 hk1 hz1 ht hvm
                      generalize H1 = H at hP hS ⊢
                      replace hr := retS hr
                      obtain ⟨hr, hv1, hv2⟩ := hr
                      refine W.widen (k := uc) (n := us) (by omega) (by omega) ?_
                      exact K 97 ls _ _ _ _ _ _ _ _ _ ad67 w28 H _ hr dX4_readLaw_97 hE hW hT hP hD hS
            exact lp67 NN 0 c60_G c60_P c60_U c60_V c60_X c60_O c60_kd c60_ln c60_cnt ad60_18 w18 H _ ls ccn19 csn19 _ _ hr hu1 hu2 hE hW hT hP hD hS (lv_sub hl [3, 4, 1, 0] rfl) hk18_this hk18_p0 hk18_c31_cnt
          · replace hr := iteT c47 hr
            have eG : (va_up (va_up (va_up (va_up (va_up (va_up (va_up (va_up (va_up (va_up (va_up (va_up (va_up (va_up c31_G 80 c36_G80) 81 c36_G81) 84 c36_G84) 85 c36_G85) 86 c36_G86) 87 c36_G87) 88 c36_G88) 80 c44_G80) 81 c44_G81) 84 c44_G84) 85 c44_G85) 86 c44_G86) 87 c44_G87) 88 c44_G88) = (va_up (va_up (va_up (va_up (va_up (va_up (va_up c31_G 80 c44_G80) 81 c44_G81) 84 c44_G84) 85 c44_G85) 86 c44_G86) 87 c44_G87) 88 c44_G88) := by
              funext k
              by_cases h80 : k = 80
              · subst h80; rfl
              by_cases h81 : k = 81
              · subst h81; rfl
              by_cases h84 : k = 84
              · subst h84; rfl
              by_cases h85 : k = 85
              · subst h85; rfl
              by_cases h86 : k = 86
              · subst h86; rfl
              by_cases h87 : k = 87
              · subst h87; rfl
              by_cases h88 : k = 88
              · subst h88; rfl
              · simp only [va_up, h80, h81, h84, h85, h86, h87, h88, if_false]
            rw [eG] at hW
            clear eG
            exact Jj50 c44_G80 c44_G81 c44_G84 c44_G85 c44_G86 c44_G87 c44_G88 ad31_7 w12 H _ ls ccn8 csn8 _ _ hr hu1 hu2 hE hW hT hP hD hS (lv_sub hl [] rfl)
      · replace hr := iteT c26 hr
        have eG : (va_up (va_up (va_up (va_up (va_up (va_up (va_up (va_up (va_up G 80 c15_G80) 81 c15_G81) 80 c23_G80) 81 c23_G81) 84 c23_G84) 85 c23_G85) 86 c23_G86) 87 c23_G87) 88 c23_G88) = (va_up (va_up (va_up (va_up (va_up (va_up (va_up G 80 c23_G80) 81 c23_G81) 84 c23_G84) 85 c23_G85) 86 c23_G86) 87 c23_G87) 88 c23_G88) := by
          funext k
          by_cases h80 : k = 80
          · subst h80; rfl
          by_cases h81 : k = 81
          · subst h81; rfl
          by_cases h84 : k = 84
          · subst h84; rfl
          by_cases h85 : k = 85
          · subst h85; rfl
          by_cases h86 : k = 86
          · subst h86; rfl
          by_cases h87 : k = 87
          · subst h87; rfl
          by_cases h88 : k = 88
          · subst h88; rfl
          · simp only [va_up, h80, h81, h84, h85, h86, h87, h88, if_false]
        rw [eG] at hW
        clear eG
        exact Jj29 c23_G80 c23_G81 c23_G84 c23_G85 c23_G86 c23_G87 c23_G88 w5 H _ ls cc cs _ _ hr hu1 hu2 hE hW hT hP hD hS (lv_sub hl [] rfl)
  refine lv_icmp_ge (tgt := 14) hx hb dX4_readLaw_7 (by decide) (fun c7 => ?_) (fun c7 => ?_)
  · replace hr := iteT c7 hr
    refine lv_iconst (v := 0) hx hb dX4_readLaw_14 (by decide +kernel) ?_
    exact Jj15 0 ws H _ ls 0 0 _ _ hr hu1 hu2 hE hW hT hP hD hS (lv_sub hl [0, 1] rfl)
  · replace hr := iteF c7 hr
    refine lv_iconst (v := 1) hx hb dX4_readLaw_10 (by decide +kernel) ?_
    refine lv_goto (tgt := 15) hx hb dX4_readLaw_11 (by decide) ?_
    exact Jj15 1 ws H _ ls 0 0 _ _ hr hu1 hu2 hE hW hT hP hD hS (lv_sub hl [0, 1] rfl)
set_option maxHeartbeats 4000000 in
set_option maxRecDepth 100000 in
theorem m_X4_readLaw (l : Launch) (dC : Nat → ClassId) (dI : Nat → Nat → Nat) (adK adV : Nat → Nat) (kk : Nat → ClassId) (ad : Nat → Nat) (sz : Nat) (ws : va_W) (G : Nat → Nat → Int32) (P : Nat → Nat → Option Nat) (U : Nat → Nat → Int64) (V : Nat → Nat → Nat → Int32) (X : Nat → Nat → Nat → Int64) (O : Nat → Nat → Nat → Option Nat) (kd : Nat → Nat) (ln : Nat → Nat) (cnt : Nat) (this : Nat) (p0 : Nat) (hk_this : kd this = 5) (hk_p0 : kd p0 = 6) (hW : LW ws ad kk kd ln G P U V X O) (hT : TYP kd P O (V 0) cnt) (c_G : Nat → Nat → Int32) (c_P : Nat → Nat → Option Nat) (c_U : Nat → Nat → Int64) (c_V : Nat → Nat → Nat → Int32) (c_X : Nat → Nat → Nat → Int64) (c_O : Nat → Nat → Nat → Option Nat) (c_kd : Nat → Nat) (c_ln : Nat → Nat) (c_cnt : Nat) (uc us : Nat) (hr : f_X4_readLaw G P U V X O kd ln cnt this p0 = some ((c_G, c_P, c_U, c_V, c_X, c_O, c_kd, c_ln, c_cnt), uc, us)) : Met l yX4_readLaw vmX4_readLaw ({ frames := 8, cells := uc, slots := us, locals := 383 } : Room) (va_Pc [.ref (ad this), .ref (ad p0)] (fun U => U.heap.size = sz ∧ va_P (dC, dI) vwCl ws U.heap ∧ va_K (dC, dI) vwCl (cT kk) U ∧ va_D (fun _ => True) ws ∧ SE adK adV (va_A ws sz) U)) (va_Qv (fun (x : (va_W × (Nat → Nat))) => LW x.1 x.2 kk c_kd c_ln c_G c_P c_U c_V c_X c_O ∧ TYP c_kd c_P c_O (c_V 0) c_cnt ∧ adEx kd ad c_kd x.2) (fun x t => va_P (dC, dI) vwCl x.1 t.heap ∧ va_K (dC, dI) vwCl (cT kk) t ∧ va_D (va_A ws sz) x.1) (va_A ws sz)) uc us (va_A ws sz) := by
  refine Met.ofW (cc := cX4_readLaw) (maxL := 5) (ret := none) (by decide) rfl ?_
  intro p e s m args below meth c s₁ B hml hv
  obtain ⟨rfl, hsz, hP, hK, hD0, hSE⟩ := hv
  have hx := B.exec
  have hb := B.bytes
  have hrt := B.returns
  have hts := atoms_spec (ws := vmX4_readLaw) B.pre
  have hown : s.vm.findClass RX4 = some m.cls := findClass_of_methodNamed B.named
  subst hsz
  have hD := hD0.self (sz := s.heap.size)
  generalize hAe : va_A ws s.heap.size = A at hD hSE ⊢
  have hA : ∀ q : Nat, s.heap.size ≤ q → A q := fun q h => by rw [← hAe]; exact Or.inr h
  have hS : va_S A s.heap s.heap [] := va_S.rf
  have hl := lv_entry ([.ref (ad this), .ref (ad p0)]) (n := 5) (Nat.le_of_ble_eq_true rfl)
  rw [lg_entry_eq]
  generalize (lg_sl ([.ref (ad this), .ref (ad p0)]) ++ List.replicate (5 - (lg_sl ([.ref (ad this), .ref (ad p0)])).length) Slot.unset).toArray = ls at hl ⊢
  exact bm_X4_readLaw this p0 hk_this hk_p0 c_G c_P c_U c_V c_X c_O c_kd c_ln c_cnt uc us hr hx hb hml hown hts hA hK hSE hW hT hP hD hS hl (fun pc ls c_Gz c_Pz c_Uz c_Vz c_Xz c_Oz c_kdz c_lnz c_cntz adz ws H locs he hd hE hW hT hP hD hS => by cases he; exact W.vret hx hb hrt (fun t ht hW9 => ⟨⟨(ws, adz), rfl, ⟨hW, hT, hE⟩, by rw [ht]; exact hP, va_K.moved hW9.alike hK, hD⟩, hS.F ht⟩) hS.2.2 hd)
set_option maxHeartbeats 4000000 in
set_option maxRecDepth 100000 in
theorem bm_X4_read {p : Program} {l : Launch} {e : Env} {s : State} {m : MethodId} {args : Array Value} {below : List Frame} {meth : Method} {c : Code} {Q : State → Prop} {A : Nat → Prop} {dC : Nat → ClassId} {dI : Nat → Nat → Nat} {kk : Nat → ClassId} {ad : Nat → Nat} {ws : va_W} {G : Nat → Nat → Int32} {P : Nat → Nat → Option Nat} {U : Nat → Nat → Int64} {V : Nat → Nat → Nat → Int32} {X : Nat → Nat → Nat → Int64} {O : Nat → Nat → Nat → Option Nat} {kd : Nat → Nat} {ln : Nat → Nat} {cnt : Nat} {H : Heap} {locs : List Loc} {ls : Array Slot} (this : Nat) (p0 : Nat) (p1 : Int32) (p2 : Nat) (hk_this : kd this = 5) (hk_p0 : kd p0 = 100) (hk_p2 : kd p2 = 6) (c_G : Nat → Nat → Int32) (c_P : Nat → Nat → Option Nat) (c_U : Nat → Nat → Int64) (c_V : Nat → Nat → Nat → Int32) (c_X : Nat → Nat → Nat → Int64) (c_O : Nat → Nat → Nat → Option Nat) (c_kd : Nat → Nat) (c_ln : Nat → Nat) (c_cnt : Nat) (uc us : Nat) (hr : f_X4_read G P U V X O kd ln cnt this p0 p1 p2 = some ((c_G, c_P, c_U, c_V, c_X, c_O, c_kd, c_ln, c_cnt), uc, us)) (hx : p.tables.exec = Jvm.exec) (hb : c.code = cX4_read) (hml : c.maxLocals = 5) (hown : s.vm.findClass RX4 = some m.cls) (hts : ∀ w ∈ vmX4_read, w.before args s = true) (hA : ∀ q : Nat, s.heap.size ≤ q → A q) (hK : va_K (dC, dI) vwCl (cT kk) s) {adK adV : Nat → Nat} (hSE : SE adK adV A s) (hW : LW ws ad kk kd ln G P U V X O) (hT : TYP kd P O (V 0) cnt) (hP : va_P (dC, dI) vwCl ws H) (hD : va_D A ws) (hS : va_S A s.heap H locs) (hl : lv_has ls 5 [(0, .ref (ad this)), (1, .ref (ad p0)), (2, .int p1), (3, .ref (ad p2))])
    (K : ∀ (pc : Nat) (ls : Array Slot) (c_Gz : Nat → Nat → Int32) (c_Pz : Nat → Nat → Option Nat) (c_Uz : Nat → Nat → Int64) (c_Vz : Nat → Nat → Nat → Int32) (c_Xz : Nat → Nat → Nat → Int64) (c_Oz : Nat → Nat → Nat → Option Nat) (c_kdz : Nat → Nat) (c_lnz : Nat → Nat) (c_cntz : Nat) (adz : Nat → Nat) (ws : va_W) (H : Heap) (locs : List Loc), some (c_Gz, c_Pz, c_Uz, c_Vz, c_Xz, c_Oz, c_kdz, c_lnz, c_cntz) = some (c_G, c_P, c_U, c_V, c_X, c_O, c_kd, c_ln, c_cnt) → decode cX4_read pc = .ok (.return_, 1) → adEx kd ad c_kdz adz → LW ws adz kk c_kdz c_lnz c_Gz c_Pz c_Uz c_Vz c_Xz c_Oz → TYP c_kdz c_Pz c_Oz (c_Vz 0) c_cntz → va_P (dC, dI) vwCl ws H → va_D A ws → va_S A s.heap H locs → W p l e ({ frames := 9, cells := uc, slots := us, locals := 407 } : Room) s m args below meth c H locs uc us Q (F0 m pc ls [])) : W p l e ({ frames := 9, cells := uc, slots := us, locals := 407 } : Room) s m args below meth c H locs 0 0 Q (F0 m 0 ls []) := by
  have hu1 : 0 + uc = uc := Nat.zero_add _
  have hu2 : 0 + us = us := Nat.zero_add _
  have hE : adEx kd ad kd ad := ⟨fun _ _ => rfl, fun _ _ => rfl⟩
  unfold f_X4_read at hr
  refine lv_aload_n hx hb dX4_read_0 rfl (lv_at hl 0 rfl) ?_
  refine lv_aload_n hx hb dX4_read_1 rfl (lv_at hl 1 rfl) ?_
  obtain ⟨i1, hi1⟩ := hW.o4 hk_this
  refine va_put (D := (dC, dI)) (ci := 4) (v := .ref (ad p0)) (ty := (.array .byte)) (C := RX4) (T := TX4) (N := 9) hx hb hts inX4 tyX4 tyX4_ok nmX4 hown hK hP hD hS i1 hi1 rfl 2 (by decide) (hts (.fieldLink RX4 18 "SpellTurner$Reader" "text" "[B") ic_352) (fun _ h9 => h9) rfl (by decide +kernel) rfl rfl (Nat.le_of_ble_eq_true rfl) dX4_read_2 (fun H locs hP2 hD2 hS => ?_)
  obtain ⟨m2, w2, em2, hP, hD, hW⟩ : ∃ (z : Nat → Option Nat) (w : va_W), z = (va_up (P 82) this (some p0)) ∧ va_P (dC, dI) vwCl w H ∧ va_D A w ∧ LW w ad kk kd ln G (va_up P 82 z) U V X O := ⟨_, _, rfl, hP2, hD2, hW.setP hD hi1 (by rw [hk_this]; decide) 82 (some p0) (by rw [hk_this]; rfl)⟩
  replace hT : TYP kd (va_up P 82 m2) O (V 0) cnt := by rw [em2]; exact hT.setP 82 this p0 hk_p0
  replace hr := vlS hr m2 em2
  clear em2
  refine lv_aload_n hx hb dX4_read_5 rfl (lv_at hl 0 rfl) ?_
  refine lv_iload_n hx hb dX4_read_6 rfl (lv_at hl 2 rfl) ?_
  refine lv_aload_n hx hb dX4_read_7 rfl (lv_at hl 1 rfl) ?_
  obtain ⟨i3, hi3⟩ := hW.v0 hk_p0
  refine va_alen (v := (Int32.ofNat (ln p0))) hx hb hK hP i3 0 hi3 rfl rfl dX4_read_8 ?_
  refine va_mmin hx hb (by rw [hml]; exact hl.1.symm) hown (hts (.methodLink RX4 40 Lib.Math.min.name) ic_545) (hts (.static Lib.Math.min.name) ic_197) (hts (.initialized "java/lang/Math") ic_198) (hts (.code Lib.Math.min.name Lib.Math.min.code 2 (some .int)) ic_199) (Nat.le_of_ble_eq_true rfl) (Nat.le_of_ble_eq_true rfl) (by first | (show _ ≤ uc; omega) | (show _ ≤ us; omega)) (by first | (show _ ≤ uc; omega) | (show _ ≤ us; omega)) dX4_read_9 ?_
  refine lv_topi (fun x12 ex12 => ?_)
  replace hr := vlS hr x12 ex12
  clear ex12
  obtain ⟨i4, hi4⟩ := hW.o4 hk_this
  refine va_put (D := (dC, dI)) (ci := 4) (v := .int x12) (ty := .int) (C := RX4) (T := TX4) (N := 9) hx hb hts inX4 tyX4 tyX4_ok nmX4 hown hK hP hD hS i4 hi4 rfl 3 (by decide) (hts (.fieldLink RX4 22 "SpellTurner$Reader" "size" "I") ic_350) (fun _ h9 => h9) rfl (by decide +kernel) rfl rfl (Nat.le_of_ble_eq_true rfl) dX4_read_12 (fun H locs hP2 hD2 hS => ?_)
  obtain ⟨m12, w5, em12, hP, hD, hW⟩ : ∃ (z : Nat → Int32) (w : va_W), z = (va_up (G 83) this x12) ∧ va_P (dC, dI) vwCl w H ∧ va_D A w ∧ LW w ad kk kd ln (va_up G 83 z) (va_up P 82 m2) U V X O := ⟨_, _, rfl, hP2, hD2, hW.setG hD hi4 (by rw [hk_this]; decide) 83 x12 (by rw [hk_this]; rfl)⟩
  replace hr := vlS hr m12 em12
  clear em12
  refine lv_aload_n hx hb dX4_read_15 rfl (lv_at hl 0 rfl) ?_
  refine lv_iconst (v := 0) hx hb dX4_read_16 (by decide +kernel) ?_
  obtain ⟨i6, hi6⟩ := hW.o4 hk_this
  refine va_put (D := (dC, dI)) (ci := 4) (v := .int 0) (ty := .int) (C := RX4) (T := TX4) (N := 9) hx hb hts inX4 tyX4 tyX4_ok nmX4 hown hK hP hD hS i6 hi6 rfl 4 (by decide) (hts (.fieldLink RX4 25 "SpellTurner$Reader" "at" "I") ic_348) (fun _ h9 => h9) rfl (by decide +kernel) rfl rfl (Nat.le_of_ble_eq_true rfl) dX4_read_17 (fun H locs hP2 hD2 hS => ?_)
  obtain ⟨m17, w7, em17, hP, hD, hW⟩ : ∃ (z : Nat → Int32) (w : va_W), z = (va_up (G 84) this 0) ∧ va_P (dC, dI) vwCl w H ∧ va_D A w ∧ LW w ad kk kd ln (va_up (va_up G 83 m12) 84 z) (va_up P 82 m2) U V X O := ⟨_, _, rfl, hP2, hD2, hW.setG hD hi6 (by rw [hk_this]; decide) 84 0 (by rw [hk_this]; rfl)⟩
  replace hr := vlS hr m17 em17
  clear em17
  refine lv_aload_n hx hb dX4_read_20 rfl (lv_at hl 0 rfl) ?_
  refine lv_iconst (v := 0) hx hb dX4_read_21 (by decide +kernel) ?_
  obtain ⟨i8, hi8⟩ := hW.o4 hk_this
  refine va_put (D := (dC, dI)) (ci := 4) (v := .int 0) (ty := .int) (C := RX4) (T := TX4) (N := 9) hx hb hts inX4 tyX4 tyX4_ok nmX4 hown hK hP hD hS i8 hi8 rfl 0 (by decide) (hts (.fieldLink RX4 9 "SpellTurner$Reader" "faultKind" "I") ic_370) (fun _ h9 => h9) rfl (by decide +kernel) rfl rfl (Nat.le_of_ble_eq_true rfl) dX4_read_22 (fun H locs hP2 hD2 hS => ?_)
  obtain ⟨m22, w9, em22, hP, hD, hW⟩ : ∃ (z : Nat → Int32) (w : va_W), z = (va_up (G 80) this 0) ∧ va_P (dC, dI) vwCl w H ∧ va_D A w ∧ LW w ad kk kd ln (va_up (va_up (va_up G 83 m12) 84 m17) 80 z) (va_up P 82 m2) U V X O := ⟨_, _, rfl, hP2, hD2, hW.setG hD hi8 (by rw [hk_this]; decide) 80 0 (by rw [hk_this]; rfl)⟩
  replace hr := vlS hr m22 em22
  clear em22
  refine lv_aload_n hx hb dX4_read_25 rfl (lv_at hl 0 rfl) ?_
  refine lv_iconst (v := (-1)) hx hb dX4_read_26 (by decide +kernel) ?_
  obtain ⟨i10, hi10⟩ := hW.o4 hk_this
  refine va_put (D := (dC, dI)) (ci := 4) (v := .int (-1)) (ty := .int) (C := RX4) (T := TX4) (N := 9) hx hb hts inX4 tyX4 tyX4_ok nmX4 hown hK hP hD hS i10 hi10 rfl 1 (by decide) (hts (.fieldLink RX4 15 "SpellTurner$Reader" "faultPlace" "I") ic_371) (fun _ h9 => h9) rfl (by decide +kernel) rfl rfl (Nat.le_of_ble_eq_true rfl) dX4_read_27 (fun H locs hP2 hD2 hS => ?_)
  obtain ⟨m27, w11, em27, hP, hD, hW⟩ : ∃ (z : Nat → Int32) (w : va_W), z = (va_up (G 81) this (-1)) ∧ va_P (dC, dI) vwCl w H ∧ va_D A w ∧ LW w ad kk kd ln (va_up (va_up (va_up (va_up G 83 m12) 84 m17) 80 m22) 81 z) (va_up P 82 m2) U V X O := ⟨_, _, rfl, hP2, hD2, hW.setG hD hi10 (by rw [hk_this]; decide) 81 (-1) (by rw [hk_this]; rfl)⟩
  replace hr := vlS hr m27 em27
  clear em27
  refine lv_iconst (v := 0) hx hb dX4_read_30 (by decide +kernel) ?_
  refine lv_istore (lv' := [(4, .int 0), (0, .ref (ad this)), (1, .ref (ad p0)), (2, .int p1), (3, .ref (ad p2))]) hx hb dX4_read_31 hl (by decide) rfl (fun ls hl => ?_)
  replace hr := jnS hr
  obtain ⟨k141, hk141, hr⟩ := hr
  have Jk141 : ∀ (c141_G : Nat → Nat → Int32) (c141_P : Nat → Nat → Option Nat) (c141_U : Nat → Nat → Int64) (c141_V : Nat → Nat → Nat → Int32) (c141_X : Nat → Nat → Nat → Int64) (c141_O : Nat → Nat → Nat → Option Nat) (c141_kd : Nat → Nat) (c141_ln : Nat → Nat) (c141_cnt : Nat) (ad141 : Nat → Nat) (ws : va_W) (H : Heap) (locs : List Loc) (ls : Array Slot) (cc cs u1 u2 : Nat), k141 c141_G c141_P c141_U c141_V c141_X c141_O c141_kd c141_ln c141_cnt = some ((c_G, c_P, c_U, c_V, c_X, c_O, c_kd, c_ln, c_cnt), u1, u2) → cc + u1 = uc → cs + u2 = us → adEx kd ad c141_kd ad141 → LW ws ad141 kk c141_kd c141_ln c141_G c141_P c141_U c141_V c141_X c141_O → TYP c141_kd c141_P c141_O (c141_V 0) c141_cnt → va_P (dC, dI) vwCl ws H → va_D A ws → va_S A s.heap H locs → lv_has ls 5 [] → W p l e ({ frames := 9, cells := uc, slots := us, locals := 407 } : Room) s m args below meth c H locs cc cs Q (F0 m 141 ls []) := by
    intro c141_G c141_P c141_U c141_V c141_X c141_O c141_kd c141_ln c141_cnt ad141 ws H locs ls cc cs u1 u2 hr hu1 hu2 hE hW hT hP hD hS hl
    rw [hk141] at hr
    replace hr := retS hr
    obtain ⟨hr, hv1, hv2⟩ := hr
    refine W.widen (k := uc) (n := us) (by omega) (by omega) ?_
    exact K 141 ls _ _ _ _ _ _ _ _ _ ad141 ws H _ hr dX4_read_141 hE hW hT hP hD hS
  have lp33 : ∀ (n33 : Nat), ∀ (y33_4 : Int32) (d33_G : Nat → Nat → Int32) (d33_P : Nat → Nat → Option Nat) (d33_U : Nat → Nat → Int64) (d33_V : Nat → Nat → Nat → Int32) (d33_X : Nat → Nat → Nat → Int64) (d33_O : Nat → Nat → Nat → Option Nat) (d33_kd : Nat → Nat) (d33_ln : Nat → Nat) (d33_cnt : Nat) (ad33 : Nat → Nat) (ws : va_W) (H : Heap) (locs : List Loc) (ls : Array Slot) (cc cs u1 u2 : Nat), L_X4_read_33 this p2 k141 n33 y33_4 d33_G d33_P d33_U d33_V d33_X d33_O d33_kd d33_ln d33_cnt = some ((c_G, c_P, c_U, c_V, c_X, c_O, c_kd, c_ln, c_cnt), u1, u2) → cc + u1 = uc → cs + u2 = us → adEx kd ad d33_kd ad33 → LW ws ad33 kk d33_kd d33_ln d33_G d33_P d33_U d33_V d33_X d33_O → TYP d33_kd d33_P d33_O (d33_V 0) d33_cnt → va_P (dC, dI) vwCl ws H → va_D A ws → va_S A s.heap H locs → lv_has ls 5 [(0, .ref (ad33 this)), (3, .ref (ad33 p2)), (4, .int y33_4)] → d33_kd this = 5 → d33_kd p2 = 6 → W p l e ({ frames := 9, cells := uc, slots := us, locals := 407 } : Room) s m args below meth c H locs cc cs Q (F0 m 33 ls []) := by
    intro n33
    induction n33 with
    | zero => intro y33_4 d33_G d33_P d33_U d33_V d33_X d33_O d33_kd d33_ln d33_cnt ad33 ws H locs ls cc cs u1 u2 hr hu1 hu2 hE hW hT hP hD hS hl hk_thisn33 hk_p2n33; exact nomatch (show none = some ((c_G, c_P, c_U, c_V, c_X, c_O, c_kd, c_ln, c_cnt), u1, u2) from hr)
    | succ n33 ih33 =>
      intro y33_4 d33_G d33_P d33_U d33_V d33_X d33_O d33_kd d33_ln d33_cnt ad33 ws H locs ls cc cs u1 u2 hr hu1 hu2 hE hW hT hP hD hS hl hk_thisn33 hk_p2n33
      replace hr : B_X4_read_33 this p2 k141 (L_X4_read_33 this p2 k141 n33) y33_4 d33_G d33_P d33_U d33_V d33_X d33_O d33_kd d33_ln d33_cnt = some ((c_G, c_P, c_U, c_V, c_X, c_O, c_kd, c_ln, c_cnt), u1, u2) := hr
      unfold B_X4_read_33 at hr
      refine lv_iload hx hb dX4_read_33 (lv_at hl 2 rfl) ?_
      refine lv_aload_n hx hb dX4_read_35 rfl (lv_at hl 0 rfl) ?_
      obtain ⟨i12, hi12⟩ := hW.o4 hk_thisn33
      refine va_get (D := (dC, dI)) (ci := 4) (v := .int ((d33_G 83) this)) (C := RX4) (T := TX4) (N := 9) hx hb hts inX4 hown hK hP i12 hi12 rfl 3 (by decide) (hts (.fieldLink RX4 22 "SpellTurner$Reader" "size" "I") ic_350) (fun _ h9 => h9) rfl dX4_read_36 ?_
      refine lv_icmp_gt (tgt := 141) hx hb dX4_read_39 (by decide) (fun c39 => ?_) (fun c39 => ?_)
      · replace hr := iteT c39 hr
        exact Jk141 d33_G d33_P d33_U d33_V d33_X d33_O d33_kd d33_ln d33_cnt ad33 ws H _ ls cc cs _ _ hr hu1 hu2 hE hW hT hP hD hS (lv_sub hl [] rfl)
      · replace hr := iteF c39 hr
        refine lv_aload_n hx hb dX4_read_42 rfl (lv_at hl 0 rfl) ?_
        obtain ⟨i13, hi13⟩ := hW.o4 hk_thisn33
        refine va_get (D := (dC, dI)) (ci := 4) (v := .int ((d33_G 80) this)) (C := RX4) (T := TX4) (N := 9) hx hb hts inX4 hown hK hP i13 hi13 rfl 0 (by decide) (hts (.fieldLink RX4 9 "SpellTurner$Reader" "faultKind" "I") ic_370) (fun _ h9 => h9) rfl dX4_read_43 ?_
        refine lv_if_ne (tgt := 141) hx hb dX4_read_46 (by decide) (fun c46 => ?_) (fun c46 => ?_)
        · replace hr := iteF c46 hr
          exact Jk141 d33_G d33_P d33_U d33_V d33_X d33_O d33_kd d33_ln d33_cnt ad33 ws H _ ls cc cs _ _ hr hu1 hu2 hE hW hT hP hD hS (lv_sub hl [] rfl)
        · replace hr := iteT c46 hr
          refine lv_aload_n hx hb dX4_read_49 rfl (lv_at hl 0 rfl) ?_
          replace hr := b5S hr
          obtain ⟨c50_G84, c50_G85, c50_G86, c50_G87, c50_G88, hc50, hr⟩ := hr
          have hFc := fr_all hD hS hA
          obtain ⟨i14, hi14⟩ := hW.o4 hk_thisn33
          refine va_callv (va_runV (As := []) (rest := []) ⟨hx, hb, hml, hown, hts⟩ (m_X4_nextToken l dC dI kk ad33 H.size ws d33_G d33_P d33_U d33_V d33_X d33_O d33_kd d33_ln d33_cnt this hk_thisn33 hW hT c50_G84 c50_G85 c50_G86 c50_G87 c50_G88 hc50) (cwV 0 hts gc_RX4_X4_nextToken_46 rfl rfl rfl (by decide +kernel) ⟨Nat.le_of_ble_eq_true rfl, Nat.le_of_ble_eq_true rfl⟩) ⟨fun a U g mk q => by obtain ⟨q0, q1, qP, qK, qD⟩ := q; exact ⟨q0, q1, qP, va_K.moved (u := U) (U := U.calling g mk a) (Vm.Alike.refl U.vm) qK, qD⟩, va_recv hK hP (ci := 4) (q0 := i14) rfl hi14, fun U hU hW => ⟨rfl, by rw [hU], by rw [hU]; exact hP, va_K.moved hW.alike hK, hD.weaken (fun _ _ _ _ => trivial)⟩⟩ rfl rfl hl.1 rfl (lv_room (Nat.le_of_ble_eq_true rfl)) dX4_read_50 ⟨(by show _ ≤ uc; omega), (by show _ ≤ us; omega)⟩) hS (fun q _ h => hFc q h) hFc (fun w15 t H1 locs ht hvm hw hB hz1 hk1 hS => ?_)
          obtain ⟨hW, hT⟩ := hw
          obtain ⟨hP1, hK1, hD1⟩ := hB
          rw [ht] at hP1
          obtain ⟨hP, hD⟩ := jn_all (w1 := w15) hFc hP1 hD1
          replace hP : va_P (dC, dI) vwCl w15 H1 := hP
          replace hD : va_D A w15 := hD
          clear hFc hP1 hK1 hD1 hk1 hz1 ht hvm
          generalize H1 = H at hP hS ⊢
          refine lv_aload_n hx hb dX4_read_53 rfl (lv_at hl 0 rfl) ?_
          obtain ⟨i16, hi16⟩ := hW.o4 hk_thisn33
          refine va_get (D := (dC, dI)) (ci := 4) (v := .int (c50_G85 this)) (C := RX4) (T := TX4) (N := 9) hx hb hts inX4 hown hK hP i16 hi16 rfl 5 (by decide) (hts (.fieldLink RX4 28 "SpellTurner$Reader" "token" "I") ic_360) (fun _ h9 => h9) rfl dX4_read_54 ?_
          refine lv_if_ne (tgt := 61) hx hb dX4_read_57 (by decide) (fun c57 => ?_) (fun c57 => ?_)
          · replace hr := iteF c57 hr
            refine lv_aload_n hx hb dX4_read_61 rfl (lv_at hl 0 rfl) ?_
            refine va_ldcS hx hb hown hSE.r0 dX4_read_62 ?_
            replace hr := b1S hr
            obtain ⟨r64z, hc64, hr⟩ := hr
            have hFc := fr_all hD hS hA
            obtain ⟨i17, hi17⟩ := hW.o4 hk_thisn33
            refine va_calli (va_runV (As := [.ref (adK 0)]) (rest := []) ⟨hx, hb, hml, hown, hts⟩ (m_X4_wordIs l dC dI adK adV kk ad33 H.size w15 (va_up (va_up (va_up (va_up (va_up d33_G 84 c50_G84) 85 c50_G85) 86 c50_G86) 87 c50_G87) 88 c50_G88) d33_P d33_U d33_V d33_X d33_O d33_kd d33_ln d33_cnt this 0 hk_thisn33 (by decide) hW hT r64z hc64) (cwV 1 hts gc_RX4_X4_wordIs_51 rfl rfl rfl (by decide +kernel) ⟨Nat.le_of_ble_eq_true rfl, Nat.le_of_ble_eq_true rfl⟩) ⟨fun a U g mk q => by obtain ⟨q0, q1, qP, qK, qD, qS⟩ := q; exact ⟨q0, q1, qP, va_K.moved (u := U) (U := U.calling g mk a) (Vm.Alike.refl U.vm) qK, qD, qS.calling⟩, va_recv hK hP (ci := 4) (q0 := i17) rfl hi17, fun U hU hW => ⟨rfl, by rw [hU], by rw [hU]; exact hP, va_K.moved hW.alike hK, hD.weaken (fun _ _ _ _ => trivial), (hSE.warm hS hU hW).narrow hFc⟩⟩ rfl rfl hl.1 rfl (lv_room (Nat.le_of_ble_eq_true rfl)) dX4_read_64 ⟨(by show _ ≤ uc; omega), (by show _ ≤ us; omega)⟩) hS (fun q _ h => hFc q h) hFc (fun r64 w18 t H1 locs ht hvm hw hB hz1 hk1 hS => ?_)
            obtain ⟨hw0, hW, hT⟩ := hw
            replace hw0 : r64 = r64z := hw0
            subst hw0
            obtain ⟨hP1, hK1, hD1⟩ := hB
            rw [ht] at hP1
            obtain ⟨hP, hD⟩ := jn_all (w1 := w18) hFc hP1 hD1
            replace hP : va_P (dC, dI) vwCl w18 H1 := hP
            replace hD : va_D A w18 := hD
            clear hFc hP1 hK1 hD1 hk1 hz1 ht hvm
            generalize H1 = H at hP hS ⊢
            replace hr := jnS hr
            obtain ⟨j135, hj135, hr⟩ := hr
            have Jj135 : ∀ (c135_G : Nat → Nat → Int32) (c135_P : Nat → Nat → Option Nat) (c135_U : Nat → Nat → Int64) (c135_V : Nat → Nat → Nat → Int32) (c135_X : Nat → Nat → Nat → Int64) (c135_O : Nat → Nat → Nat → Option Nat) (c135_kd : Nat → Nat) (c135_ln : Nat → Nat) (c135_cnt : Nat) (ad135 : Nat → Nat) (ws : va_W) (H : Heap) (locs : List Loc) (ls : Array Slot) (cc cs u1 u2 : Nat), j135 c135_G c135_P c135_U c135_V c135_X c135_O c135_kd c135_ln c135_cnt = some ((c_G, c_P, c_U, c_V, c_X, c_O, c_kd, c_ln, c_cnt), u1, u2) → cc + u1 = uc → cs + u2 = us → adEx kd ad c135_kd ad135 → LW ws ad135 kk c135_kd c135_ln c135_G c135_P c135_U c135_V c135_X c135_O → TYP c135_kd c135_P c135_O (c135_V 0) c135_cnt → va_P (dC, dI) vwCl ws H → va_D A ws → va_S A s.heap H locs → lv_has ls 5 [(0, .ref (ad135 this)), (3, .ref (ad135 p2)), (4, .int y33_4)] → c135_kd this = 5 → c135_kd p2 = 6 → W p l e ({ frames := 9, cells := uc, slots := us, locals := 407 } : Room) s m args below meth c H locs cc cs Q (F0 m 135 ls []) := by
              intro c135_G c135_P c135_U c135_V c135_X c135_O c135_kd c135_ln c135_cnt ad135 ws H locs ls cc cs u1 u2 hr hu1 hu2 hE hW hT hP hD hS hl hk_thisn33n135 hk_p2n33n135
              rw [hj135] at hr
              refine lv_iinc (v := (y33_4 + 1)) (lv' := [(4, .int (y33_4 + 1)), (0, .ref (ad135 this)), (3, .ref (ad135 p2))]) hx hb dX4_read_135 hl (k := 2) rfl rfl (by decide) rfl (fun ls hl => ?_)
              refine lv_goto (tgt := 33) hx hb dX4_read_138 (by decide) ?_
              exact ih33 (y33_4 + 1) c135_G c135_P c135_U c135_V c135_X c135_O c135_kd c135_ln c135_cnt ad135 ws H _ ls cc cs _ _ hr hu1 hu2 hE hW hT hP hD hS (lv_sub hl [1, 2, 0] rfl) hk_thisn33n135 hk_p2n33n135
            refine lv_if_eq (tgt := 78) hx hb dX4_read_67 (by decide) (fun c67 => ?_) (fun c67 => ?_)
            · replace hr := iteT c67 hr
              refine lv_aload_n hx hb dX4_read_78 rfl (lv_at hl 0 rfl) ?_
              refine va_ldcS hx hb hown hSE.r1 dX4_read_79 ?_
              replace hr := b1S hr
              obtain ⟨r81z, hc81, hr⟩ := hr
              have hFc := fr_all hD hS hA
              obtain ⟨i19, hi19⟩ := hW.o4 hk_thisn33
              refine va_calli (va_runV (As := [.ref (adK 1)]) (rest := []) ⟨hx, hb, hml, hown, hts⟩ (m_X4_wordIs l dC dI adK adV kk ad33 H.size w18 (va_up (va_up (va_up (va_up (va_up d33_G 84 c50_G84) 85 c50_G85) 86 c50_G86) 87 c50_G87) 88 c50_G88) d33_P d33_U d33_V d33_X d33_O d33_kd d33_ln d33_cnt this 1 hk_thisn33 (by decide) hW hT r81z hc81) (cwV 1 hts gc_RX4_X4_wordIs_51 rfl rfl rfl (by decide +kernel) ⟨Nat.le_of_ble_eq_true rfl, Nat.le_of_ble_eq_true rfl⟩) ⟨fun a U g mk q => by obtain ⟨q0, q1, qP, qK, qD, qS⟩ := q; exact ⟨q0, q1, qP, va_K.moved (u := U) (U := U.calling g mk a) (Vm.Alike.refl U.vm) qK, qD, qS.calling⟩, va_recv hK hP (ci := 4) (q0 := i19) rfl hi19, fun U hU hW => ⟨rfl, by rw [hU], by rw [hU]; exact hP, va_K.moved hW.alike hK, hD.weaken (fun _ _ _ _ => trivial), (hSE.warm hS hU hW).narrow hFc⟩⟩ rfl rfl hl.1 rfl (lv_room (Nat.le_of_ble_eq_true rfl)) dX4_read_81 ⟨(by show _ ≤ uc; omega), (by show _ ≤ us; omega)⟩) hS (fun q _ h => hFc q h) hFc (fun r81 w20 t H1 locs ht hvm hw hB hz1 hk1 hS => ?_)
              obtain ⟨hw0, hW, hT⟩ := hw
              replace hw0 : r81 = r81z := hw0
              subst hw0
              obtain ⟨hP1, hK1, hD1⟩ := hB
              rw [ht] at hP1
              obtain ⟨hP, hD⟩ := jn_all (w1 := w20) hFc hP1 hD1
              replace hP : va_P (dC, dI) vwCl w20 H1 := hP
              replace hD : va_D A w20 := hD
              clear hFc hP1 hK1 hD1 hk1 hz1 ht hvm
              generalize H1 = H at hP hS ⊢
              refine lv_if_eq (tgt := 95) hx hb dX4_read_84 (by decide) (fun c84 => ?_) (fun c84 => ?_)
              · replace hr := iteT c84 hr
                refine lv_aload_n hx hb dX4_read_95 rfl (lv_at hl 0 rfl) ?_
                refine va_ldcS hx hb hown hSE.r2 dX4_read_96 ?_
                replace hr := b1S hr
                obtain ⟨r98z, hc98, hr⟩ := hr
                have hFc := fr_all hD hS hA
                obtain ⟨i21, hi21⟩ := hW.o4 hk_thisn33
                refine va_calli (va_runV (As := [.ref (adK 2)]) (rest := []) ⟨hx, hb, hml, hown, hts⟩ (m_X4_wordIs l dC dI adK adV kk ad33 H.size w20 (va_up (va_up (va_up (va_up (va_up d33_G 84 c50_G84) 85 c50_G85) 86 c50_G86) 87 c50_G87) 88 c50_G88) d33_P d33_U d33_V d33_X d33_O d33_kd d33_ln d33_cnt this 2 hk_thisn33 (by decide) hW hT r98z hc98) (cwV 1 hts gc_RX4_X4_wordIs_51 rfl rfl rfl (by decide +kernel) ⟨Nat.le_of_ble_eq_true rfl, Nat.le_of_ble_eq_true rfl⟩) ⟨fun a U g mk q => by obtain ⟨q0, q1, qP, qK, qD, qS⟩ := q; exact ⟨q0, q1, qP, va_K.moved (u := U) (U := U.calling g mk a) (Vm.Alike.refl U.vm) qK, qD, qS.calling⟩, va_recv hK hP (ci := 4) (q0 := i21) rfl hi21, fun U hU hW => ⟨rfl, by rw [hU], by rw [hU]; exact hP, va_K.moved hW.alike hK, hD.weaken (fun _ _ _ _ => trivial), (hSE.warm hS hU hW).narrow hFc⟩⟩ rfl rfl hl.1 rfl (lv_room (Nat.le_of_ble_eq_true rfl)) dX4_read_98 ⟨(by show _ ≤ uc; omega), (by show _ ≤ us; omega)⟩) hS (fun q _ h => hFc q h) hFc (fun r98 w22 t H1 locs ht hvm hw hB hz1 hk1 hS => ?_)
                obtain ⟨hw0, hW, hT⟩ := hw
                replace hw0 : r98 = r98z := hw0
                subst hw0
                obtain ⟨hP1, hK1, hD1⟩ := hB
                rw [ht] at hP1
                obtain ⟨hP, hD⟩ := jn_all (w1 := w22) hFc hP1 hD1
                replace hP : va_P (dC, dI) vwCl w22 H1 := hP
                replace hD : va_D A w22 := hD
                clear hFc hP1 hK1 hD1 hk1 hz1 ht hvm
                generalize H1 = H at hP hS ⊢
                refine lv_if_eq (tgt := 112) hx hb dX4_read_101 (by decide) (fun c101 => ?_) (fun c101 => ?_)
                · replace hr := iteT c101 hr
                  refine lv_aload_n hx hb dX4_read_112 rfl (lv_at hl 0 rfl) ?_
                  refine va_ldcS hx hb hown hSE.r3 dX4_read_113 ?_
                  replace hr := b1S hr
                  obtain ⟨r115z, hc115, hr⟩ := hr
                  have hFc := fr_all hD hS hA
                  obtain ⟨i23, hi23⟩ := hW.o4 hk_thisn33
                  refine va_calli (va_runV (As := [.ref (adK 3)]) (rest := []) ⟨hx, hb, hml, hown, hts⟩ (m_X4_wordIs l dC dI adK adV kk ad33 H.size w22 (va_up (va_up (va_up (va_up (va_up d33_G 84 c50_G84) 85 c50_G85) 86 c50_G86) 87 c50_G87) 88 c50_G88) d33_P d33_U d33_V d33_X d33_O d33_kd d33_ln d33_cnt this 3 hk_thisn33 (by decide) hW hT r115z hc115) (cwV 1 hts gc_RX4_X4_wordIs_51 rfl rfl rfl (by decide +kernel) ⟨Nat.le_of_ble_eq_true rfl, Nat.le_of_ble_eq_true rfl⟩) ⟨fun a U g mk q => by obtain ⟨q0, q1, qP, qK, qD, qS⟩ := q; exact ⟨q0, q1, qP, va_K.moved (u := U) (U := U.calling g mk a) (Vm.Alike.refl U.vm) qK, qD, qS.calling⟩, va_recv hK hP (ci := 4) (q0 := i23) rfl hi23, fun U hU hW => ⟨rfl, by rw [hU], by rw [hU]; exact hP, va_K.moved hW.alike hK, hD.weaken (fun _ _ _ _ => trivial), (hSE.warm hS hU hW).narrow hFc⟩⟩ rfl rfl hl.1 rfl (lv_room (Nat.le_of_ble_eq_true rfl)) dX4_read_115 ⟨(by show _ ≤ uc; omega), (by show _ ≤ us; omega)⟩) hS (fun q _ h => hFc q h) hFc (fun r115 w24 t H1 locs ht hvm hw hB hz1 hk1 hS => ?_)
                  obtain ⟨hw0, hW, hT⟩ := hw
                  replace hw0 : r115 = r115z := hw0
                  subst hw0
                  obtain ⟨hP1, hK1, hD1⟩ := hB
                  rw [ht] at hP1
                  obtain ⟨hP, hD⟩ := jn_all (w1 := w24) hFc hP1 hD1
                  replace hP : va_P (dC, dI) vwCl w24 H1 := hP
                  replace hD : va_D A w24 := hD
                  clear hFc hP1 hK1 hD1 hk1 hz1 ht hvm
                  generalize H1 = H at hP hS ⊢
                  refine lv_if_eq (tgt := 129) hx hb dX4_read_118 (by decide) (fun c118 => ?_) (fun c118 => ?_)
                  · replace hr := iteT c118 hr
                    refine lv_aload_n hx hb dX4_read_129 rfl (lv_at hl 0 rfl) ?_
                    refine lv_iconst (v := 1) hx hb dX4_read_130 (by decide +kernel) ?_
                    replace hr := b3S hr
                    obtain ⟨r131z, c131_G80, c131_G81, hc131, hr⟩ := hr
                    have hFc := fr_all hD hS hA
                    obtain ⟨i25, hi25⟩ := hW.o4 hk_thisn33
                    refine va_calli (va_runV (As := [.int 1]) (rest := []) ⟨hx, hb, hml, hown, hts⟩ (m_X4_blame l dC dI kk ad33 H.size w24 (va_up (va_up (va_up (va_up (va_up d33_G 84 c50_G84) 85 c50_G85) 86 c50_G86) 87 c50_G87) 88 c50_G88) d33_P d33_U d33_V d33_X d33_O d33_kd d33_ln d33_cnt this 1 hk_thisn33 hW hT r131z c131_G80 c131_G81 hc131) (cwV 1 hts gc_RX4_X4_blame_74 rfl rfl rfl (by decide +kernel) ⟨Nat.le_of_ble_eq_true rfl, Nat.le_of_ble_eq_true rfl⟩) ⟨fun a U g mk q => by obtain ⟨q0, q1, qP, qK, qD⟩ := q; exact ⟨q0, q1, qP, va_K.moved (u := U) (U := U.calling g mk a) (Vm.Alike.refl U.vm) qK, qD⟩, va_recv hK hP (ci := 4) (q0 := i25) rfl hi25, fun U hU hW => ⟨rfl, by rw [hU], by rw [hU]; exact hP, va_K.moved hW.alike hK, hD.weaken (fun _ _ _ _ => trivial)⟩⟩ rfl rfl hl.1 rfl (lv_room (Nat.le_of_ble_eq_true rfl)) dX4_read_131 ⟨(by show _ ≤ uc; omega), (by show _ ≤ us; omega)⟩) hS (fun q _ h => hFc q h) hFc (fun r131 w26 t H1 locs ht hvm hw hB hz1 hk1 hS => ?_)
                    obtain ⟨hw0, hW, hT⟩ := hw
                    replace hw0 : r131 = r131z := hw0
                    subst hw0
                    obtain ⟨hP1, hK1, hD1⟩ := hB
                    rw [ht] at hP1
                    obtain ⟨hP, hD⟩ := jn_all (w1 := w26) hFc hP1 hD1
                    replace hP : va_P (dC, dI) vwCl w26 H1 := hP
                    replace hD : va_D A w26 := hD
                    clear hFc hP1 hK1 hD1 hk1 hz1 ht hvm
                    generalize H1 = H at hP hS ⊢
                    refine lv_pop hx hb dX4_read_134 rfl ?_
                    exact Jj135 (va_up (va_up (va_up (va_up (va_up (va_up (va_up d33_G 84 c50_G84) 85 c50_G85) 86 c50_G86) 87 c50_G87) 88 c50_G88) 80 c131_G80) 81 c131_G81) d33_P d33_U d33_V d33_X d33_O d33_kd d33_ln d33_cnt ad33 w26 H _ ls cc cs _ _ hr hu1 hu2 hE hW hT hP hD hS (lv_sub hl [0, 1, 2] rfl) hk_thisn33 hk_p2n33
                  · replace hr := iteF c118 hr
                    refine lv_aload_n hx hb dX4_read_121 rfl (lv_at hl 0 rfl) ?_
                    refine lv_aload_n hx hb dX4_read_122 rfl (lv_at hl 1 rfl) ?_
                    replace hr := bA9S hr
                    obtain ⟨c123_G, c123_P, c123_U, c123_V, c123_X, c123_O, c123_kd, c123_ln, c123_cnt, zv1, zv2, zw1, zw2, hc123, hr, hq1, hq2⟩ := hr
                    have hFc := fr_all hD hS hA
                    obtain ⟨i27, hi27⟩ := hW.o4 hk_thisn33
                    refine va_callv (va_runV (As := [.ref (ad33 p2)]) (rest := []) ⟨hx, hb, hml, hown, hts⟩ (m_X4_readLaw l dC dI adK adV kk ad33 H.size w24 (va_up (va_up (va_up (va_up (va_up d33_G 84 c50_G84) 85 c50_G85) 86 c50_G86) 87 c50_G87) 88 c50_G88) d33_P d33_U d33_V d33_X d33_O d33_kd d33_ln d33_cnt this p2 hk_thisn33 hk_p2n33 hW hT c123_G c123_P c123_U c123_V c123_X c123_O c123_kd c123_ln c123_cnt zv1 zv2 hc123) (cwV 1 hts gc_RX4_X4_readLaw_71 rfl rfl rfl (by decide +kernel) ⟨Nat.le_of_ble_eq_true rfl, Nat.le_of_ble_eq_true rfl⟩) ⟨fun a U g mk q => by obtain ⟨q0, q1, qP, qK, qD, qS⟩ := q; exact ⟨q0, q1, qP, va_K.moved (u := U) (U := U.calling g mk a) (Vm.Alike.refl U.vm) qK, qD, qS.calling⟩, va_recv hK hP (ci := 4) (q0 := i27) rfl hi27, fun U hU hW => ⟨rfl, by rw [hU], by rw [hU]; exact hP, va_K.moved hW.alike hK, hD.weaken (fun _ _ _ _ => trivial), (hSE.warm hS hU hW).narrow hFc⟩⟩ rfl rfl hl.1 rfl (lv_room (Nat.le_of_ble_eq_true rfl)) dX4_read_123 ⟨(by show _ ≤ uc; omega), (by show _ ≤ us; omega)⟩) hS (fun q _ h => hFc q h) hFc (fun w28 t H1 locs ht hvm hw hB hz1 hk1 hS => ?_)
                    obtain ⟨w28, ad123_28⟩ := w28
                    dsimp only at hw hB
                    obtain ⟨hW, hT, hE2⟩ := hw
                    obtain ⟨hP1, hK1, hD1⟩ := hB
                    rw [ht] at hP1
                    obtain ⟨hP, hD⟩ := jn_all (w1 := w28) hFc hP1 hD1
                    replace hP : va_P (dC, dI) vwCl w28 H1 := hP
                    replace hD : va_D A w28 := hD
                    clear hFc hP1 hK1 hD1 hk1 hz1 ht hvm
                    generalize H1 = H at hP hS ⊢
                    have ea_this : ad33 this = ad123_28 this := (hE2.1 this (by rw [hk_thisn33]; decide)).symm
                    have hk28_this := (hE2.2 this (by rw [hk_thisn33]; decide)).trans hk_thisn33
                    have ea_p2 : ad33 p2 = ad123_28 p2 := (hE2.1 p2 (by rw [hk_p2n33]; decide)).symm
                    have hk28_p2 := (hE2.2 p2 (by rw [hk_p2n33]; decide)).trans hk_p2n33
                    rw [ea_this, ea_p2] at hl
                    clear ea_this ea_p2
                    replace hE := adE hE hE2
                    clear hE2
                    obtain ⟨ccn29, eccn29⟩ : ∃ y : Nat, y = (cc + zv1) := ⟨_, rfl⟩
                    obtain ⟨csn29, ecsn29⟩ : ∃ y : Nat, y = (cs + zv2) := ⟨_, rfl⟩
                    refine W.widen (k := ccn29) (n := csn29) (Nat.le_of_eq eccn29.symm) (Nat.le_of_eq ecsn29.symm) ?_
                    replace hu1 : ccn29 + zw1 = uc := by omega
                    replace hu2 : csn29 + zw2 = us := by omega
                    clear eccn29 ecsn29
                    refine lv_goto (tgt := 135) hx hb dX4_read_126 (by decide) ?_
                    exact Jj135 c123_G c123_P c123_U c123_V c123_X c123_O c123_kd c123_ln c123_cnt ad123_28 w28 H _ ls ccn29 csn29 _ _ hr hu1 hu2 hE hW hT hP hD hS (lv_sub hl [0, 1, 2] rfl) hk28_this hk28_p2
                · replace hr := iteF c101 hr
                  refine lv_aload_n hx hb dX4_read_104 rfl (lv_at hl 0 rfl) ?_
                  refine lv_aload_n hx hb dX4_read_105 rfl (lv_at hl 1 rfl) ?_
                  replace hr := b10S hr
                  obtain ⟨c106_G80, c106_G81, c106_G84, c106_G85, c106_G86, c106_G87, c106_G88, c106_G203, c106_V0, c106_V1, hc106, hr⟩ := hr
                  have hFc := fr_all hD hS hA
                  obtain ⟨i30, hi30⟩ := hW.o4 hk_thisn33
                  refine va_callv (va_runV (As := [.ref (ad33 p2)]) (rest := []) ⟨hx, hb, hml, hown, hts⟩ (m_X4_readPart l dC dI kk ad33 H.size w22 (va_up (va_up (va_up (va_up (va_up d33_G 84 c50_G84) 85 c50_G85) 86 c50_G86) 87 c50_G87) 88 c50_G88) d33_P d33_U d33_V d33_X d33_O d33_kd d33_ln d33_cnt this p2 hk_thisn33 hk_p2n33 hW hT c106_G80 c106_G81 c106_G84 c106_G85 c106_G86 c106_G87 c106_G88 c106_G203 c106_V0 c106_V1 hc106) (cwV 1 hts gc_RX4_X4_readPart_66 rfl rfl rfl (by decide +kernel) ⟨Nat.le_of_ble_eq_true rfl, Nat.le_of_ble_eq_true rfl⟩) ⟨fun a U g mk q => by obtain ⟨q0, q1, qP, qK, qD⟩ := q; exact ⟨q0, q1, qP, va_K.moved (u := U) (U := U.calling g mk a) (Vm.Alike.refl U.vm) qK, qD⟩, va_recv hK hP (ci := 4) (q0 := i30) rfl hi30, fun U hU hW => ⟨rfl, by rw [hU], by rw [hU]; exact hP, va_K.moved hW.alike hK, hD.weaken (fun _ _ _ _ => trivial)⟩⟩ rfl rfl hl.1 rfl (lv_room (Nat.le_of_ble_eq_true rfl)) dX4_read_106 ⟨(by show _ ≤ uc; omega), (by show _ ≤ us; omega)⟩) hS (fun q _ h => hFc q h) hFc (fun w31 t H1 locs ht hvm hw hB hz1 hk1 hS => ?_)
                  obtain ⟨hW, hT⟩ := hw
                  obtain ⟨hP1, hK1, hD1⟩ := hB
                  rw [ht] at hP1
                  obtain ⟨hP, hD⟩ := jn_all (w1 := w31) hFc hP1 hD1
                  replace hP : va_P (dC, dI) vwCl w31 H1 := hP
                  replace hD : va_D A w31 := hD
                  clear hFc hP1 hK1 hD1 hk1 hz1 ht hvm
                  generalize H1 = H at hP hS ⊢
                  refine lv_goto (tgt := 135) hx hb dX4_read_109 (by decide) ?_
                  exact Jj135 (va_up (va_up (va_up (va_up (va_up (va_up (va_up (va_up (va_up (va_up (va_up (va_up (va_up d33_G 84 c50_G84) 85 c50_G85) 86 c50_G86) 87 c50_G87) 88 c50_G88) 80 c106_G80) 81 c106_G81) 84 c106_G84) 85 c106_G85) 86 c106_G86) 87 c106_G87) 88 c106_G88) 203 c106_G203) d33_P d33_U (va_up (va_up d33_V 0 c106_V0) 1 c106_V1) d33_X d33_O d33_kd d33_ln d33_cnt ad33 w31 H _ ls cc cs _ _ hr hu1 hu2 hE hW hT hP hD hS (lv_sub hl [0, 1, 2] rfl) hk_thisn33 hk_p2n33
              · replace hr := iteF c84 hr
                refine lv_aload_n hx hb dX4_read_87 rfl (lv_at hl 0 rfl) ?_
                refine lv_aload_n hx hb dX4_read_88 rfl (lv_at hl 1 rfl) ?_
                replace hr := b12S hr
                obtain ⟨c89_G80, c89_G81, c89_G84, c89_G85, c89_G86, c89_G87, c89_G88, c89_G107, c89_G203, c89_V0, c89_V1, c89_V10, hc89, hr⟩ := hr
                have hFc := fr_all hD hS hA
                obtain ⟨i32, hi32⟩ := hW.o4 hk_thisn33
                refine va_callv (va_runV (As := [.ref (ad33 p2)]) (rest := []) ⟨hx, hb, hml, hown, hts⟩ (m_X4_readList l dC dI adK adV kk ad33 H.size w20 (va_up (va_up (va_up (va_up (va_up d33_G 84 c50_G84) 85 c50_G85) 86 c50_G86) 87 c50_G87) 88 c50_G88) d33_P d33_U d33_V d33_X d33_O d33_kd d33_ln d33_cnt this p2 hk_thisn33 hk_p2n33 hW hT c89_G80 c89_G81 c89_G84 c89_G85 c89_G86 c89_G87 c89_G88 c89_G107 c89_G203 c89_V0 c89_V1 c89_V10 hc89) (cwV 1 hts gc_RX4_X4_readList_61 rfl rfl rfl (by decide +kernel) ⟨Nat.le_of_ble_eq_true rfl, Nat.le_of_ble_eq_true rfl⟩) ⟨fun a U g mk q => by obtain ⟨q0, q1, qP, qK, qD, qS⟩ := q; exact ⟨q0, q1, qP, va_K.moved (u := U) (U := U.calling g mk a) (Vm.Alike.refl U.vm) qK, qD, qS.calling⟩, va_recv hK hP (ci := 4) (q0 := i32) rfl hi32, fun U hU hW => ⟨rfl, by rw [hU], by rw [hU]; exact hP, va_K.moved hW.alike hK, hD.weaken (fun _ _ _ _ => trivial), (hSE.warm hS hU hW).narrow hFc⟩⟩ rfl rfl hl.1 rfl (lv_room (Nat.le_of_ble_eq_true rfl)) dX4_read_89 ⟨(by show _ ≤ uc; omega), (by show _ ≤ us; omega)⟩) hS (fun q _ h => hFc q h) hFc (fun w33 t H1 locs ht hvm hw hB hz1 hk1 hS => ?_)
                obtain ⟨hW, hT⟩ := hw
                obtain ⟨hP1, hK1, hD1⟩ := hB
                rw [ht] at hP1
                obtain ⟨hP, hD⟩ := jn_all (w1 := w33) hFc hP1 hD1
                replace hP : va_P (dC, dI) vwCl w33 H1 := hP
                replace hD : va_D A w33 := hD
                clear hFc hP1 hK1 hD1 hk1 hz1 ht hvm
                generalize H1 = H at hP hS ⊢
                refine lv_goto (tgt := 135) hx hb dX4_read_92 (by decide) ?_
                exact Jj135 (va_up (va_up (va_up (va_up (va_up (va_up (va_up (va_up (va_up (va_up (va_up (va_up (va_up (va_up d33_G 84 c50_G84) 85 c50_G85) 86 c50_G86) 87 c50_G87) 88 c50_G88) 80 c89_G80) 81 c89_G81) 84 c89_G84) 85 c89_G85) 86 c89_G86) 87 c89_G87) 88 c89_G88) 107 c89_G107) 203 c89_G203) d33_P d33_U (va_up (va_up (va_up d33_V 0 c89_V0) 1 c89_V1) 10 c89_V10) d33_X d33_O d33_kd d33_ln d33_cnt ad33 w33 H _ ls cc cs _ _ hr hu1 hu2 hE hW hT hP hD hS (lv_sub hl [0, 1, 2] rfl) hk_thisn33 hk_p2n33
            · replace hr := iteF c67 hr
              refine lv_aload_n hx hb dX4_read_70 rfl (lv_at hl 0 rfl) ?_
              refine lv_aload_n hx hb dX4_read_71 rfl (lv_at hl 1 rfl) ?_
              replace hr := b12S hr
              obtain ⟨c72_G80, c72_G81, c72_G84, c72_G85, c72_G86, c72_G87, c72_G88, c72_G107, c72_G203, c72_V0, c72_V1, c72_V10, hc72, hr⟩ := hr
              have hFc := fr_all hD hS hA
              obtain ⟨i34, hi34⟩ := hW.o4 hk_thisn33
              refine va_callv (va_runV (As := [.ref (ad33 p2)]) (rest := []) ⟨hx, hb, hml, hown, hts⟩ (m_X4_readKeep l dC dI kk ad33 H.size w18 (va_up (va_up (va_up (va_up (va_up d33_G 84 c50_G84) 85 c50_G85) 86 c50_G86) 87 c50_G87) 88 c50_G88) d33_P d33_U d33_V d33_X d33_O d33_kd d33_ln d33_cnt this p2 hk_thisn33 hk_p2n33 hW hT c72_G80 c72_G81 c72_G84 c72_G85 c72_G86 c72_G87 c72_G88 c72_G107 c72_G203 c72_V0 c72_V1 c72_V10 hc72) (cwV 1 hts gc_RX4_X4_readKeep_55 rfl rfl rfl (by decide +kernel) ⟨Nat.le_of_ble_eq_true rfl, Nat.le_of_ble_eq_true rfl⟩) ⟨fun a U g mk q => by obtain ⟨q0, q1, qP, qK, qD⟩ := q; exact ⟨q0, q1, qP, va_K.moved (u := U) (U := U.calling g mk a) (Vm.Alike.refl U.vm) qK, qD⟩, va_recv hK hP (ci := 4) (q0 := i34) rfl hi34, fun U hU hW => ⟨rfl, by rw [hU], by rw [hU]; exact hP, va_K.moved hW.alike hK, hD.weaken (fun _ _ _ _ => trivial)⟩⟩ rfl rfl hl.1 rfl (lv_room (Nat.le_of_ble_eq_true rfl)) dX4_read_72 ⟨(by show _ ≤ uc; omega), (by show _ ≤ us; omega)⟩) hS (fun q _ h => hFc q h) hFc (fun w35 t H1 locs ht hvm hw hB hz1 hk1 hS => ?_)
              obtain ⟨hW, hT⟩ := hw
              obtain ⟨hP1, hK1, hD1⟩ := hB
              rw [ht] at hP1
              obtain ⟨hP, hD⟩ := jn_all (w1 := w35) hFc hP1 hD1
              replace hP : va_P (dC, dI) vwCl w35 H1 := hP
              replace hD : va_D A w35 := hD
              clear hFc hP1 hK1 hD1 hk1 hz1 ht hvm
              generalize H1 = H at hP hS ⊢
              refine lv_goto (tgt := 135) hx hb dX4_read_75 (by decide) ?_
              exact Jj135 (va_up (va_up (va_up (va_up (va_up (va_up (va_up (va_up (va_up (va_up (va_up (va_up (va_up (va_up d33_G 84 c50_G84) 85 c50_G85) 86 c50_G86) 87 c50_G87) 88 c50_G88) 80 c72_G80) 81 c72_G81) 84 c72_G84) 85 c72_G85) 86 c72_G86) 87 c72_G87) 88 c72_G88) 107 c72_G107) 203 c72_G203) d33_P d33_U (va_up (va_up (va_up d33_V 0 c72_V0) 1 c72_V1) 10 c72_V10) d33_X d33_O d33_kd d33_ln d33_cnt ad33 w35 H _ ls cc cs _ _ hr hu1 hu2 hE hW hT hP hD hS (lv_sub hl [0, 1, 2] rfl) hk_thisn33 hk_p2n33
          · replace hr := iteT c57 hr
            replace hr := retS hr
            obtain ⟨hr, hv1, hv2⟩ := hr
            refine W.widen (k := uc) (n := us) (by omega) (by omega) ?_
            exact K 60 ls _ _ _ _ _ _ _ _ _ ad33 w15 H _ hr dX4_read_60 hE hW hT hP hD hS
  exact lp33 NN 0 (va_up (va_up (va_up (va_up G 83 m12) 84 m17) 80 m22) 81 m27) (va_up P 82 m2) U V X O kd ln cnt ad w11 H _ ls 0 0 _ _ hr hu1 hu2 hE hW hT hP hD hS (lv_sub hl [1, 4, 0] rfl) hk_this hk_p2
set_option maxHeartbeats 4000000 in
set_option maxRecDepth 100000 in
theorem m_X4_read (l : Launch) (dC : Nat → ClassId) (dI : Nat → Nat → Nat) (adK adV : Nat → Nat) (kk : Nat → ClassId) (ad : Nat → Nat) (sz : Nat) (ws : va_W) (G : Nat → Nat → Int32) (P : Nat → Nat → Option Nat) (U : Nat → Nat → Int64) (V : Nat → Nat → Nat → Int32) (X : Nat → Nat → Nat → Int64) (O : Nat → Nat → Nat → Option Nat) (kd : Nat → Nat) (ln : Nat → Nat) (cnt : Nat) (this : Nat) (p0 : Nat) (p1 : Int32) (p2 : Nat) (hk_this : kd this = 5) (hk_p0 : kd p0 = 100) (hk_p2 : kd p2 = 6) (hW : LW ws ad kk kd ln G P U V X O) (hT : TYP kd P O (V 0) cnt) (c_G : Nat → Nat → Int32) (c_P : Nat → Nat → Option Nat) (c_U : Nat → Nat → Int64) (c_V : Nat → Nat → Nat → Int32) (c_X : Nat → Nat → Nat → Int64) (c_O : Nat → Nat → Nat → Option Nat) (c_kd : Nat → Nat) (c_ln : Nat → Nat) (c_cnt : Nat) (uc us : Nat) (hr : f_X4_read G P U V X O kd ln cnt this p0 p1 p2 = some ((c_G, c_P, c_U, c_V, c_X, c_O, c_kd, c_ln, c_cnt), uc, us)) : Met l yX4_read vmX4_read ({ frames := 9, cells := uc, slots := us, locals := 407 } : Room) (va_Pc [.ref (ad this), .ref (ad p0), .int p1, .ref (ad p2)] (fun U => U.heap.size = sz ∧ va_P (dC, dI) vwCl ws U.heap ∧ va_K (dC, dI) vwCl (cT kk) U ∧ va_D (fun _ => True) ws ∧ SE adK adV (va_A ws sz) U)) (va_Qv (fun (x : (va_W × (Nat → Nat))) => LW x.1 x.2 kk c_kd c_ln c_G c_P c_U c_V c_X c_O ∧ TYP c_kd c_P c_O (c_V 0) c_cnt ∧ adEx kd ad c_kd x.2) (fun x t => va_P (dC, dI) vwCl x.1 t.heap ∧ va_K (dC, dI) vwCl (cT kk) t ∧ va_D (va_A ws sz) x.1) (va_A ws sz)) uc us (va_A ws sz) := by
  refine Met.ofW (cc := cX4_read) (maxL := 5) (ret := none) (by decide) rfl ?_
  intro p e s m args below meth c s₁ B hml hv
  obtain ⟨rfl, hsz, hP, hK, hD0, hSE⟩ := hv
  have hx := B.exec
  have hb := B.bytes
  have hrt := B.returns
  have hts := atoms_spec (ws := vmX4_read) B.pre
  have hown : s.vm.findClass RX4 = some m.cls := findClass_of_methodNamed B.named
  subst hsz
  have hD := hD0.self (sz := s.heap.size)
  generalize hAe : va_A ws s.heap.size = A at hD hSE ⊢
  have hA : ∀ q : Nat, s.heap.size ≤ q → A q := fun q h => by rw [← hAe]; exact Or.inr h
  have hS : va_S A s.heap s.heap [] := va_S.rf
  have hl := lv_entry ([.ref (ad this), .ref (ad p0), .int p1, .ref (ad p2)]) (n := 5) (Nat.le_of_ble_eq_true rfl)
  rw [lg_entry_eq]
  generalize (lg_sl ([.ref (ad this), .ref (ad p0), .int p1, .ref (ad p2)]) ++ List.replicate (5 - (lg_sl ([.ref (ad this), .ref (ad p0), .int p1, .ref (ad p2)])).length) Slot.unset).toArray = ls at hl ⊢
  exact bm_X4_read this p0 p1 p2 hk_this hk_p0 hk_p2 c_G c_P c_U c_V c_X c_O c_kd c_ln c_cnt uc us hr hx hb hml hown hts hA hK hSE hW hT hP hD hS hl (fun pc ls c_Gz c_Pz c_Uz c_Vz c_Xz c_Oz c_kdz c_lnz c_cntz adz ws H locs he hd hE hW hT hP hD hS => by cases he; exact W.vret hx hb hrt (fun t ht hW9 => ⟨⟨(ws, adz), rfl, ⟨hW, hT, hE⟩, by rw [ht]; exact hP, va_K.moved hW9.alike hK, hD⟩, hS.F ht⟩) hS.2.2 hd)
set_option maxHeartbeats 4000000 in
set_option maxRecDepth 100000 in
theorem bm_X11_reform {p : Program} {l : Launch} {e : Env} {s : State} {m : MethodId} {args : Array Value} {below : List Frame} {meth : Method} {c : Code} {Q : State → Prop} {A : Nat → Prop} {dC : Nat → ClassId} {dI : Nat → Nat → Nat} {kk : Nat → ClassId} {ad : Nat → Nat} {ws : va_W} {G : Nat → Nat → Int32} {P : Nat → Nat → Option Nat} {U : Nat → Nat → Int64} {V : Nat → Nat → Nat → Int32} {X : Nat → Nat → Nat → Int64} {O : Nat → Nat → Nat → Option Nat} {kd : Nat → Nat} {ln : Nat → Nat} {cnt : Nat} {H : Heap} {locs : List Loc} {ls : Array Slot} (this : Nat) (p0 : Int32) (hk_this : kd this = 12) (r : Int32) (c_G : Nat → Nat → Int32) (c_P : Nat → Nat → Option Nat) (c_U : Nat → Nat → Int64) (c_V : Nat → Nat → Nat → Int32) (c_X : Nat → Nat → Nat → Int64) (c_O : Nat → Nat → Nat → Option Nat) (c_kd : Nat → Nat) (c_ln : Nat → Nat) (c_cnt : Nat) (uc us : Nat) (hr : f_X11_reform G P U V X O kd ln cnt this p0 = some ((r, c_G, c_P, c_U, c_V, c_X, c_O, c_kd, c_ln, c_cnt), uc, us)) (hx : p.tables.exec = Jvm.exec) (hb : c.code = cX11_reform) (hml : c.maxLocals = 3) (hown : s.vm.findClass RX11 = some m.cls) (hts : ∀ w ∈ vmX11_reform, w.before args s = true) (hA : ∀ q : Nat, s.heap.size ≤ q → A q) (hK : va_K (dC, dI) vwCl (cT kk) s) {adK adV : Nat → Nat} (hSE : SE adK adV A s) (hEn : EnvOK s) (hW : LW ws ad kk kd ln G P U V X O) (hT : TYP kd P O (V 0) cnt) (hP : va_P (dC, dI) vwCl ws H) (hD : va_D A ws) (hS : va_S A s.heap H locs) (hl : lv_has ls 3 [(0, .ref (ad this)), (1, .int p0)])
    (K : ∀ (pc : Nat) (ls : Array Slot) (rz : Int32) (c_Gz : Nat → Nat → Int32) (c_Pz : Nat → Nat → Option Nat) (c_Uz : Nat → Nat → Int64) (c_Vz : Nat → Nat → Nat → Int32) (c_Xz : Nat → Nat → Nat → Int64) (c_Oz : Nat → Nat → Nat → Option Nat) (c_kdz : Nat → Nat) (c_lnz : Nat → Nat) (c_cntz : Nat) (adz : Nat → Nat) (ws : va_W) (H : Heap) (locs : List Loc), some (rz, c_Gz, c_Pz, c_Uz, c_Vz, c_Xz, c_Oz, c_kdz, c_lnz, c_cntz) = some (r, c_G, c_P, c_U, c_V, c_X, c_O, c_kd, c_ln, c_cnt) → decode cX11_reform pc = .ok (.ireturn, 1) → adEx kd ad c_kdz adz → LW ws adz kk c_kdz c_lnz c_Gz c_Pz c_Uz c_Vz c_Xz c_Oz → TYP c_kdz c_Pz c_Oz (c_Vz 0) c_cntz → va_P (dC, dI) vwCl ws H → va_D A ws → va_S A s.heap H locs → W p l e ({ frames := 10, cells := uc, slots := us, locals := 431 } : Room) s m args below meth c H locs uc us Q (F0 m pc ls [.int rz])) : W p l e ({ frames := 10, cells := uc, slots := us, locals := 431 } : Room) s m args below meth c H locs 0 0 Q (F0 m 0 ls []) := by
  have hu1 : 0 + uc = uc := Nat.zero_add _
  have hu2 : 0 + us = us := Nat.zero_add _
  have hE : adEx kd ad kd ad := ⟨fun _ _ => rfl, fun _ _ => rfl⟩
  unfold f_X11_reform at hr
  refine lv_aload_n hx hb dX11_reform_0 rfl (lv_at hl 0 rfl) ?_
  obtain ⟨i1, hi1⟩ := hW.o11 hk_this
  replace hr := nnS hr
  obtain ⟨a1, hn1, hr⟩ := hr
  have hk_a1 : kd a1 = 8 := hT.1 220 _ _ hn1
  refine va_get (D := (dC, dI)) (ci := 11) (v := .ref (ad a1)) (C := RX11) (T := TX11) (N := 17) hx hb hts inX11 hown hK hP i1 hi1 rfl 0 (by decide) (hts (.fieldLink RX11 12 "SpellTurner" "tape" "LSpellTurner$Tape;") ic_48) (fun _ h9 => h9) (congrArg (fun o => some (va_re ad o)) hn1) dX11_reform_1 ?_
  replace hr := b2S hr
  obtain ⟨r4z, c4_G141, hc4, hr⟩ := hr
  have hFc := fr_all hD hS hA
  obtain ⟨i2, hi2⟩ := hW.o7 hk_a1
  refine va_calli (va_runV (As := []) (rest := []) ⟨hx, hb, hml, hown, hts⟩ (m_X7_take l dC dI kk ad H.size ws G P U V X O kd ln cnt a1 hk_a1 hW hT r4z c4_G141 hc4) (cwV 0 hts gc_RX11_X7_take_112 rfl rfl rfl (by decide +kernel) ⟨Nat.le_of_ble_eq_true rfl, Nat.le_of_ble_eq_true rfl⟩) ⟨fun a U g mk q => by obtain ⟨q0, q1, qP, qK, qD⟩ := q; exact ⟨q0, q1, qP, va_K.moved (u := U) (U := U.calling g mk a) (Vm.Alike.refl U.vm) qK, qD⟩, va_recv hK hP (ci := 7) (q0 := i2) rfl hi2, fun U hU hW => ⟨rfl, by rw [hU], by rw [hU]; exact hP, va_K.moved hW.alike hK, hD.weaken (fun _ _ _ _ => trivial)⟩⟩ rfl rfl hl.1 rfl (lv_room (Nat.le_of_ble_eq_true rfl)) dX11_reform_4 ⟨(by show _ ≤ uc; omega), (by show _ ≤ us; omega)⟩) hS (fun q _ h => hFc q h) hFc (fun r4 w3 t H1 locs ht hvm hw hB hz1 hk1 hS => ?_)
  obtain ⟨hw0, hW, hT⟩ := hw
  replace hw0 : r4 = r4z := hw0
  subst hw0
  obtain ⟨hP1, hK1, hD1⟩ := hB
  rw [ht] at hP1
  obtain ⟨hP, hD⟩ := jn_all (w1 := w3) hFc hP1 hD1
  replace hP : va_P (dC, dI) vwCl w3 H1 := hP
  replace hD : va_D A w3 := hD
  clear hFc hP1 hK1 hD1 hk1 hz1 ht hvm
  generalize H1 = H at hP hS ⊢
  refine lv_istore_n (lv' := [(2, .int r4), (0, .ref (ad this)), (1, .int p0)]) hx hb dX11_reform_7 rfl hl (by decide) rfl (fun ls hl => ?_)
  refine lv_iload_n hx hb dX11_reform_8 rfl (lv_at hl 2 rfl) ?_
  refine lv_aload_n hx hb dX11_reform_9 rfl (lv_at hl 1 rfl) ?_
  obtain ⟨i4, hi4⟩ := hW.o11 hk_this
  refine va_get (D := (dC, dI)) (ci := 11) (v := .int ((G 223) this)) (C := RX11) (T := TX11) (N := 17) hx hb hts inX11 hown hK hP i4 hi4 rfl 3 (by decide) (hts (.fieldLink RX11 26 "SpellTurner" "latestDay" "I") ic_559) (fun _ h9 => h9) rfl dX11_reform_10 ?_
  replace hr := jnS hr
  obtain ⟨j22, hj22, hr⟩ := hr
  have Jj22 : ∀ (ws : va_W) (H : Heap) (locs : List Loc) (ls : Array Slot) (cc cs u1 u2 : Nat), j22 () = some ((r, c_G, c_P, c_U, c_V, c_X, c_O, c_kd, c_ln, c_cnt), u1, u2) → cc + u1 = uc → cs + u2 = us → adEx kd ad kd ad → LW ws ad kk kd ln (va_up G 141 c4_G141) P U V X O → TYP kd P O (V 0) cnt → va_P (dC, dI) vwCl ws H → va_D A ws → va_S A s.heap H locs → lv_has ls 3 [] → W p l e ({ frames := 10, cells := uc, slots := us, locals := 431 } : Room) s m args below meth c H locs cc cs Q (F0 m 22 ls []) := by
    intro ws H locs ls cc cs u1 u2 hr hu1 hu2 hE hW hT hP hD hS hl
    rw [hj22] at hr
    refine lv_bipush (v := (-2)) hx hb dX11_reform_22 (by decide +kernel) ?_
    replace hr := retS hr
    obtain ⟨hr, hv1, hv2⟩ := hr
    refine W.widen (k := uc) (n := us) (by omega) (by omega) ?_
    exact K 24 ls _ _ _ _ _ _ _ _ _ _ ad ws H _ hr dX11_reform_24 hE hW hT hP hD hS
  refine lv_icmp_le (tgt := 22) hx hb dX11_reform_13 (by decide) (fun c13 => ?_) (fun c13 => ?_)
  · replace hr := iteT c13 hr
    exact Jj22 w3 H _ ls 0 0 _ _ hr hu1 hu2 hE hW hT hP hD hS (lv_sub hl [] rfl)
  · replace hr := iteF c13 hr
    refine lv_iload_n hx hb dX11_reform_16 rfl (lv_at hl 2 rfl) ?_
    refine lv_ldc (own := RX11) (v := 100000) hx hb hown (hts (.constant RX11 116 (100000)) ic_58) dX11_reform_17 ?_
    refine lv_icmp_le (tgt := 25) hx hb dX11_reform_19 (by decide) (fun c19 => ?_) (fun c19 => ?_)
    · replace hr := iteT c19 hr
      refine lv_aload_n hx hb dX11_reform_25 rfl (lv_at hl 1 rfl) ?_
      obtain ⟨i5, hi5⟩ := hW.o11 hk_this
      replace hr := nnS hr
      obtain ⟨a26, hn26, hr⟩ := hr
      have hk_a26 : kd a26 = 6 := hT.1 224 _ _ hn26
      refine va_get (D := (dC, dI)) (ci := 11) (v := .ref (ad a26)) (C := RX11) (T := TX11) (N := 17) hx hb hts inX11 hown hK hP i5 hi5 rfl 4 (by decide) (hts (.fieldLink RX11 30 "SpellTurner" "draft" "LSpellTurner$Reform;") ic_560) (fun _ h9 => h9) (congrArg (fun o => some (va_re ad o)) hn26) dX11_reform_26 ?_
      refine lv_iload_n hx hb dX11_reform_29 rfl (lv_at hl 2 rfl) ?_
      replace hr := b4S hr
      obtain ⟨c30_G100, c30_G102, c30_G107, c30_G203, hc30, hr⟩ := hr
      have hFc := fr_all hD hS hA
      obtain ⟨i6, hi6⟩ := hW.o5 hk_a26
      refine va_callv (va_runV (As := [.int p0]) (rest := []) ⟨hx, hb, hml, hown, hts⟩ (m_X5_clear l dC dI kk ad H.size w3 (va_up G 141 c4_G141) P U V X O kd ln cnt a26 p0 hk_a26 hW hT c30_G100 c30_G102 c30_G107 c30_G203 hc30) (cwV 1 hts gc_RX11_X5_clear_117 rfl rfl rfl (by decide +kernel) ⟨Nat.le_of_ble_eq_true rfl, Nat.le_of_ble_eq_true rfl⟩) ⟨fun a U g mk q => by obtain ⟨q0, q1, qP, qK, qD⟩ := q; exact ⟨q0, q1, qP, va_K.moved (u := U) (U := U.calling g mk a) (Vm.Alike.refl U.vm) qK, qD⟩, va_recv hK hP (ci := 5) (q0 := i6) rfl hi6, fun U hU hW => ⟨rfl, by rw [hU], by rw [hU]; exact hP, va_K.moved hW.alike hK, hD.weaken (fun _ _ _ _ => trivial)⟩⟩ rfl rfl hl.1 rfl (lv_room (Nat.le_of_ble_eq_true rfl)) dX11_reform_30 ⟨(by show _ ≤ uc; omega), (by show _ ≤ us; omega)⟩) hS (fun q _ h => hFc q h) hFc (fun w7 t H1 locs ht hvm hw hB hz1 hk1 hS => ?_)
      obtain ⟨hW, hT⟩ := hw
      obtain ⟨hP1, hK1, hD1⟩ := hB
      rw [ht] at hP1
      obtain ⟨hP, hD⟩ := jn_all (w1 := w7) hFc hP1 hD1
      replace hP : va_P (dC, dI) vwCl w7 H1 := hP
      replace hD : va_D A w7 := hD
      clear hFc hP1 hK1 hD1 hk1 hz1 ht hvm
      generalize H1 = H at hP hS ⊢
      refine lv_aload_n hx hb dX11_reform_33 rfl (lv_at hl 1 rfl) ?_
      obtain ⟨i8, hi8⟩ := hW.o11 hk_this
      replace hr := nnS hr
      obtain ⟨a34, hn34, hr⟩ := hr
      have hk_a34 : kd a34 = 5 := hT.1 225 _ _ hn34
      refine va_get (D := (dC, dI)) (ci := 11) (v := .ref (ad a34)) (C := RX11) (T := TX11) (N := 17) hx hb hts inX11 hown hK hP i8 hi8 rfl 5 (by decide) (hts (.fieldLink RX11 37 "SpellTurner" "reader" "LSpellTurner$Reader;") ic_71) (fun _ h9 => h9) (congrArg (fun o => some (va_re ad o)) hn34) dX11_reform_34 ?_
      refine lv_aload_n hx hb dX11_reform_37 rfl (lv_at hl 1 rfl) ?_
      obtain ⟨i9, hi9⟩ := hW.o11 hk_this
      replace hr := nnS hr
      obtain ⟨a38, hn38, hr⟩ := hr
      have hk_a38 : kd a38 = 8 := hT.1 220 _ _ hn38
      refine va_get (D := (dC, dI)) (ci := 11) (v := .ref (ad a38)) (C := RX11) (T := TX11) (N := 17) hx hb hts inX11 hown hK hP i9 hi9 rfl 0 (by decide) (hts (.fieldLink RX11 12 "SpellTurner" "tape" "LSpellTurner$Tape;") ic_48) (fun _ h9 => h9) (congrArg (fun o => some (va_re ad o)) hn38) dX11_reform_38 ?_
      obtain ⟨i10, hi10⟩ := hW.o7 hk_a38
      replace hr := nnS hr
      obtain ⟨a41, hn41, hr⟩ := hr
      have hk_a41 : kd a41 = 100 := hT.1 140 _ _ hn41
      refine va_get (D := (dC, dI)) (ci := 7) (v := .ref (ad a41)) (C := RX7) (T := TX7) (N := 2) hx hb hts inX7 hown hK hP i10 hi10 rfl 0 (by decide) (hts (.fieldLink RX11 120 "SpellTurner$Tape" "bytes" "[B") ic_107) (fun _ h9 => h9) (congrArg (fun o => some (va_re ad o)) hn41) dX11_reform_41 ?_
      refine lv_iload_n hx hb dX11_reform_44 rfl (lv_at hl 0 rfl) ?_
      refine lv_aload_n hx hb dX11_reform_45 rfl (lv_at hl 1 rfl) ?_
      obtain ⟨i11, hi11⟩ := hW.o11 hk_this
      replace hr := nnS hr
      obtain ⟨a46, hn46, hr⟩ := hr
      have hk_a46 : kd a46 = 6 := hT.1 224 _ _ hn46
      refine va_get (D := (dC, dI)) (ci := 11) (v := .ref (ad a46)) (C := RX11) (T := TX11) (N := 17) hx hb hts inX11 hown hK hP i11 hi11 rfl 4 (by decide) (hts (.fieldLink RX11 30 "SpellTurner" "draft" "LSpellTurner$Reform;") ic_560) (fun _ h9 => h9) (congrArg (fun o => some (va_re ad o)) hn46) dX11_reform_46 ?_
      replace hr := bA9S hr
      obtain ⟨c49_G, c49_P, c49_U, c49_V, c49_X, c49_O, c49_kd, c49_ln, c49_cnt, zv1, zv2, zw1, zw2, hc49, hr, hq1, hq2⟩ := hr
      have hFc := fr_all hD hS hA
      obtain ⟨i12, hi12⟩ := hW.o4 hk_a34
      refine va_callv (va_runV (As := [.ref (ad a41), .int r4, .ref (ad a46)]) (rest := []) ⟨hx, hb, hml, hown, hts⟩ (m_X4_read l dC dI adK adV kk ad H.size w7 (va_up (va_up (va_up (va_up (va_up G 141 c4_G141) 100 c30_G100) 102 c30_G102) 107 c30_G107) 203 c30_G203) P U V X O kd ln cnt a34 a41 r4 a46 hk_a34 hk_a41 hk_a46 hW hT c49_G c49_P c49_U c49_V c49_X c49_O c49_kd c49_ln c49_cnt zv1 zv2 hc49) (cwV 3 hts gc_RX11_X4_read_124 rfl rfl rfl (by decide +kernel) ⟨Nat.le_of_ble_eq_true rfl, Nat.le_of_ble_eq_true rfl⟩) ⟨fun a U g mk q => by obtain ⟨q0, q1, qP, qK, qD, qS⟩ := q; exact ⟨q0, q1, qP, va_K.moved (u := U) (U := U.calling g mk a) (Vm.Alike.refl U.vm) qK, qD, qS.calling⟩, va_recv hK hP (ci := 4) (q0 := i12) rfl hi12, fun U hU hW => ⟨rfl, by rw [hU], by rw [hU]; exact hP, va_K.moved hW.alike hK, hD.weaken (fun _ _ _ _ => trivial), (hSE.warm hS hU hW).narrow hFc⟩⟩ rfl rfl hl.1 rfl (lv_room (Nat.le_of_ble_eq_true rfl)) dX11_reform_49 ⟨(by show _ ≤ uc; omega), (by show _ ≤ us; omega)⟩) hS (fun q _ h => hFc q h) hFc (fun w13 t H1 locs ht hvm hw hB hz1 hk1 hS => ?_)
      obtain ⟨w13, ad49_13⟩ := w13
      dsimp only at hw hB
      obtain ⟨hW, hT, hE2⟩ := hw
      obtain ⟨hP1, hK1, hD1⟩ := hB
      rw [ht] at hP1
      obtain ⟨hP, hD⟩ := jn_all (w1 := w13) hFc hP1 hD1
      replace hP : va_P (dC, dI) vwCl w13 H1 := hP
      replace hD : va_D A w13 := hD
      clear hFc hP1 hK1 hD1 hk1 hz1 ht hvm
      generalize H1 = H at hP hS ⊢
      have ea_this : ad this = ad49_13 this := (hE2.1 this (by rw [hk_this]; decide)).symm
      have hk13_this := (hE2.2 this (by rw [hk_this]; decide)).trans hk_this
      rw [ea_this] at hl
      clear ea_this
      replace hE := adE hE hE2
      clear hE2
      obtain ⟨ccn14, eccn14⟩ : ∃ y : Nat, y = (0 + zv1) := ⟨_, rfl⟩
      obtain ⟨csn14, ecsn14⟩ : ∃ y : Nat, y = (0 + zv2) := ⟨_, rfl⟩
      refine W.widen (k := ccn14) (n := csn14) (Nat.le_of_eq eccn14.symm) (Nat.le_of_eq ecsn14.symm) ?_
      replace hu1 : ccn14 + zw1 = uc := by omega
      replace hu2 : csn14 + zw2 = us := by omega
      clear eccn14 ecsn14
      refine lv_aload_n hx hb dX11_reform_52 rfl (lv_at hl 1 rfl) ?_
      obtain ⟨i15, hi15⟩ := hW.o11 hk13_this
      replace hr := nnS hr
      obtain ⟨a53, hn53, hr⟩ := hr
      have hk_a53 : c49_kd a53 = 5 := hT.1 225 _ _ hn53
      refine va_get (D := (dC, dI)) (ci := 11) (v := .ref (ad49_13 a53)) (C := RX11) (T := TX11) (N := 17) hx hb hts inX11 hown hK hP i15 hi15 rfl 5 (by decide) (hts (.fieldLink RX11 37 "SpellTurner" "reader" "LSpellTurner$Reader;") ic_71) (fun _ h9 => h9) (congrArg (fun o => some (va_re ad49_13 o)) hn53) dX11_reform_53 ?_
      obtain ⟨i16, hi16⟩ := hW.o4 hk_a53
      refine va_get (D := (dC, dI)) (ci := 4) (v := .int ((c49_G 80) a53)) (C := RX4) (T := TX4) (N := 9) hx hb hts inX4 hown hK hP i16 hi16 rfl 0 (by decide) (hts (.fieldLink RX11 128 "SpellTurner$Reader" "faultKind" "I") ic_72) (fun _ h9 => h9) rfl dX11_reform_56 ?_
      refine lv_if_eq (tgt := 64) hx hb dX11_reform_59 (by decide) (fun c59 => ?_) (fun c59 => ?_)
      · replace hr := iteT c59 hr
        refine lv_aload_n hx hb dX11_reform_64 rfl (lv_at hl 1 rfl) ?_
        obtain ⟨i17, hi17⟩ := hW.o11 hk13_this
        refine va_get (D := (dC, dI)) (ci := 11) (v := .int ((c49_G 222) this)) (C := RX11) (T := TX11) (N := 17) hx hb hts inX11 hown hK hP i17 hi17 rfl 2 (by decide) (hts (.fieldLink RX11 22 "SpellTurner" "reformCount" "I") ic_55) (fun _ h9 => h9) rfl dX11_reform_65 ?_
        refine lv_bipush (v := 6) hx hb dX11_reform_68 (by decide +kernel) ?_
        refine lv_icmp_lt (tgt := 76) hx hb dX11_reform_70 (by decide) (fun c70 => ?_) (fun c70 => ?_)
        · replace hr := iteT c70 hr
          refine lv_aload_n hx hb dX11_reform_76 rfl (lv_at hl 1 rfl) ?_
          obtain ⟨i18, hi18⟩ := hW.o11 hk13_this
          replace hr := nnS hr
          obtain ⟨a77, hn77, hr⟩ := hr
          have hk_a77 : c49_kd a77 = 10 := hT.1 226 _ _ hn77
          refine va_get (D := (dC, dI)) (ci := 11) (v := .ref (ad49_13 a77)) (C := RX11) (T := TX11) (N := 17) hx hb hts inX11 hown hK hP i18 hi18 rfl 6 (by decide) (hts (.fieldLink RX11 44 "SpellTurner" "turner" "LSpellTurner$Turner;") ic_340) (fun _ h9 => h9) (congrArg (fun o => some (va_re ad49_13 o)) hn77) dX11_reform_77 ?_
          refine lv_aload_n hx hb dX11_reform_80 rfl (lv_at hl 1 rfl) ?_
          obtain ⟨i19, hi19⟩ := hW.o11 hk13_this
          replace hr := nnS hr
          obtain ⟨a81, hn81, hr⟩ := hr
          have hk_a81 : c49_kd a81 = 6 := hT.1 224 _ _ hn81
          refine va_get (D := (dC, dI)) (ci := 11) (v := .ref (ad49_13 a81)) (C := RX11) (T := TX11) (N := 17) hx hb hts inX11 hown hK hP i19 hi19 rfl 4 (by decide) (hts (.fieldLink RX11 30 "SpellTurner" "draft" "LSpellTurner$Reform;") ic_560) (fun _ h9 => h9) (congrArg (fun o => some (va_re ad49_13 o)) hn81) dX11_reform_81 ?_
          replace hr := b9S hr
          obtain ⟨c84_G183, c84_G203, c84_P181, c84_P182, c84_U184, c84_V0, c84_V1, c84_V11, c84_X0, hc84, hr⟩ := hr
          have hFc := fr_all hD hS hA
          obtain ⟨i20, hi20⟩ := hW.o9 hk_a77
          refine va_callv (va_runV (As := [.ref (ad49_13 a81)]) (rest := []) ⟨hx, hb, hml, hown, hts⟩ (m_X9_turnParts l dC dI kk ad49_13 H.size w13 c49_G c49_P c49_U c49_V c49_X c49_O c49_kd c49_ln c49_cnt a77 a81 hk_a77 hk_a81 hW hT c84_G183 c84_G203 c84_P181 c84_P182 c84_U184 c84_V0 c84_V1 c84_V11 c84_X0 hc84) (cwV 1 hts gc_RX11_X9_turnParts_131 rfl rfl rfl (by decide +kernel) ⟨Nat.le_of_ble_eq_true rfl, Nat.le_of_ble_eq_true rfl⟩) ⟨fun a U g mk q => by obtain ⟨q0, q1, qP, qK, qD⟩ := q; exact ⟨q0, q1, qP, va_K.moved (u := U) (U := U.calling g mk a) (Vm.Alike.refl U.vm) qK, qD⟩, va_recv hK hP (ci := 9) (q0 := i20) rfl hi20, fun U hU hW => ⟨rfl, by rw [hU], by rw [hU]; exact hP, va_K.moved hW.alike hK, hD.weaken (fun _ _ _ _ => trivial)⟩⟩ rfl rfl hl.1 rfl (lv_room (Nat.le_of_ble_eq_true rfl)) dX11_reform_84 ⟨(by show _ ≤ uc; omega), (by show _ ≤ us; omega)⟩) hS (fun q _ h => hFc q h) hFc (fun w21 t H1 locs ht hvm hw hB hz1 hk1 hS => ?_)
          obtain ⟨hW, hT⟩ := hw
          obtain ⟨hP1, hK1, hD1⟩ := hB
          rw [ht] at hP1
          obtain ⟨hP, hD⟩ := jn_all (w1 := w21) hFc hP1 hD1
          replace hP : va_P (dC, dI) vwCl w21 H1 := hP
          replace hD : va_D A w21 := hD
          clear hFc hP1 hK1 hD1 hk1 hz1 ht hvm
          generalize H1 = H at hP hS ⊢
          refine lv_aload_n hx hb dX11_reform_87 rfl (lv_at hl 1 rfl) ?_
          obtain ⟨i22, hi22⟩ := hW.o11 hk13_this
          replace hr := nnS hr
          obtain ⟨a88, hn88, hr⟩ := hr
          have hk_a88 : c49_kd a88 = 302 := hT.1 221 _ _ hn88
          refine va_get (D := (dC, dI)) (ci := 11) (v := .ref (ad49_13 a88)) (C := RX11) (T := TX11) (N := 17) hx hb hts inX11 hown hK hP i22 hi22 rfl 1 (by decide) (hts (.fieldLink RX11 18 "SpellTurner" "reforms" "[LSpellTurner$Reform;") ic_56) (fun _ h9 => h9) (congrArg (fun o => some (va_re ad49_13 o)) hn88) dX11_reform_88 ?_
          refine lv_aload_n hx hb dX11_reform_91 rfl (lv_at hl 1 rfl) ?_
          obtain ⟨i23, hi23⟩ := hW.o11 hk13_this
          refine va_get (D := (dC, dI)) (ci := 11) (v := .int ((c49_G 222) this)) (C := RX11) (T := TX11) (N := 17) hx hb hts inX11 hown hK hP i23 hi23 rfl 2 (by decide) (hts (.fieldLink RX11 22 "SpellTurner" "reformCount" "I") ic_55) (fun _ h9 => h9) rfl dX11_reform_92 ?_
          refine lv_aload_n hx hb dX11_reform_95 rfl (lv_at hl 1 rfl) ?_
          obtain ⟨i24, hi24⟩ := hW.o11 hk13_this
          replace hr := nnS hr
          obtain ⟨a96, hn96, hr⟩ := hr
          have hk_a96 : c49_kd a96 = 6 := hT.1 224 _ _ hn96
          refine va_get (D := (dC, dI)) (ci := 11) (v := .ref (ad49_13 a96)) (C := RX11) (T := TX11) (N := 17) hx hb hts inX11 hown hK hP i24 hi24 rfl 4 (by decide) (hts (.fieldLink RX11 30 "SpellTurner" "draft" "LSpellTurner$Reform;") ic_560) (fun _ h9 => h9) (congrArg (fun o => some (va_re ad49_13 o)) hn96) dX11_reform_96 ?_
          obtain ⟨i25, hi25⟩ := hW.q2 hk_a88
          obtain ⟨i26, hi26⟩ := hW.o5 hk_a96
          replace hr := iteS hr
          obtain ⟨hi99, hr⟩ := hr
          refine va_astq (f := fun i => (((c49_O 2) a88) i).map ad49_13) hx hb hK hP hD hS i25 6 i26 5 hi25 rfl hi26 rfl (inbV hi99) dX11_reform_99 (fun H locs hP2 hD2 hS => ?_)
          obtain ⟨m99, w27, em99, hP, hD, hW⟩ : ∃ (z : Nat → Nat → Option Nat) (w : va_W), z = (va_up (c49_O 2) a88 (va_up ((c49_O 2) a88) (Int32.toNatClampNeg ((c49_G 222) this)) (some a96))) ∧ va_P (dC, dI) vwCl w H ∧ va_D A w ∧ LW w ad49_13 kk c49_kd c49_ln (va_up (va_up c49_G 183 c84_G183) 203 c84_G203) (va_up (va_up c49_P 181 c84_P181) 182 c84_P182) (va_up c49_U 184 c84_U184) (va_up (va_up (va_up c49_V 0 c84_V0) 1 c84_V1) 11 c84_V11) (va_up c49_X 0 c84_X0) (va_up c49_O 2 z) := ⟨_, _, rfl, hP2, hD2, hW.setO hD hi25 (by rw [hk_a88]; decide) 2 (va_up ((c49_O 2) a88) (Int32.toNatClampNeg ((c49_G 222) this)) (some a96)) (by rw [hk_a88]; exact congrArg (fun h => (.inl (kk 6, c49_ln a88, .inr (.inr (.inr (.inr h)))) : va_E)) up_map)⟩
          replace hT : TYP c49_kd (va_up (va_up c49_P 181 c84_P181) 182 c84_P182) (va_up c49_O 2 m99) c84_V0 c49_cnt := by rw [em99]; exact hT.setO 2 a88 _ a96 hk_a96
          replace hr := vlS hr m99 em99
          clear em99
          refine lv_aload_n hx hb dX11_reform_100 rfl (lv_at hl 1 rfl) ?_
          replace hr := tkS hr
          obtain ⟨zw1, zw2, hr, hq1, hq2⟩ := hr
          refine va_new (ci := 5) (fs := [.int 0, .null, .int 0, .null, .null, .null, .null, .int 0, .null, .null, .null]) (C := RX5) (T := TX5) (N := 11) hx hb hts inX5 tyX5 tyX5_ok hown (hts (.classLink RX11 16 RX5) ic_570) (hts (.instantiable RX5 11) ic_571) (hts (.initialized RX5) ic_248) hK hP hD hS hA rfl (fun j hj => match j, hj with | 0, _ => rfl | 1, _ => rfl | 2, _ => rfl | 3, _ => rfl | 4, _ => rfl | 5, _ => rfl | 6, _ => rfl | 7, _ => rfl | 8, _ => rfl | 9, _ => rfl | 10, _ => rfl | j + 11, hj => absurd hj (by omega)) (by show _ ≤ uc; omega) (by show _ ≤ us; omega) dX11_reform_101 (fun q101 H hP2 hD2 hS => ?_)
          replace hr := newcS hr hW hT hD2 (by decide) (fun _ => rfl)
          obtain ⟨G101, P101, U101, V101, X101, O101, kd101, ln101, cnt101, ad101, hr, hW, hT, hE2, hk_n101, hqa⟩ := hr
          subst hqa
          obtain ⟨w28, hP, hD, hW⟩ : ∃ w : va_W, va_P (dC, dI) vwCl w H ∧ va_D A w ∧ LW w ad101 kk kd101 ln101 G101 P101 U101 V101 X101 O101 := ⟨_, hP2, hD2, hW⟩
          clear hP2 hD2
          have ea_this : ad49_13 this = ad101 this := (hE2.1 this (by rw [hk13_this]; decide)).symm
          have hk28_this := (hE2.2 this (by rw [hk13_this]; decide)).trans hk13_this
          rw [ea_this] at hl
          rw [ea_this]
          clear ea_this
          replace hE := adE hE hE2
          clear hE2
          obtain ⟨ccn29, eccn29⟩ : ∃ y : Nat, y = (ccn14 + 1) := ⟨_, rfl⟩
          obtain ⟨csn29, ecsn29⟩ : ∃ y : Nat, y = (csn14 + 11) := ⟨_, rfl⟩
          refine W.widen (k := ccn29) (n := csn29) (Nat.le_of_eq eccn29.symm) (Nat.le_of_eq ecsn29.symm) ?_
          replace hu1 : ccn29 + zw1 = uc := by omega
          replace hu2 : csn29 + zw2 = us := by omega
          clear eccn29 ecsn29
          refine lv_dup hx hb dX11_reform_104 rfl ?_
          replace hr := bA9S hr
          obtain ⟨c105_G, c105_P, c105_U, c105_V, c105_X, c105_O, c105_kd, c105_ln, c105_cnt, zv1, zv2, zw1, zw2, hc105, hr, hq1, hq2⟩ := hr
          have hFc := fr_all hD hS hA
          refine va_callv (va_runIN (As := []) (rest := [.ref (ad101 c49_cnt), .ref (ad101 this)]) ⟨hx, hb, hml, hown, hts⟩ (m_X5_init l dC dI kk ad101 H.size w28 G101 P101 U101 V101 X101 O101 kd101 ln101 cnt101 c49_cnt hk_n101 hW hT c105_G c105_P c105_U c105_V c105_X c105_O c105_kd c105_ln c105_cnt zv1 zv2 hc105) ⟨va_cnB 0 hts (lwC_code ic_501) rfl rfl rfl (en_nRX11_29 hEn) (hts (.initialized RX5) ic_248) (by decide +kernel) ⟨Nat.le_of_ble_eq_true rfl, Nat.le_of_ble_eq_true rfl⟩, rfl, (hts (.instanceMethod yX5_init) ic_572)⟩ ⟨fun a U g mk q => by obtain ⟨q0, q1, qP, qK, qD, qE⟩ := q; exact ⟨q0, q1, qP, va_K.moved (u := U) (U := U.calling g mk a) (Vm.Alike.refl U.vm) qK, qD, en_call qE⟩, fun U hU hW => ⟨rfl, by rw [hU], by rw [hU]; exact hP, va_K.moved hW.alike hK, hD.weaken (fun _ _ _ _ => trivial), en_warm hW hEn⟩⟩ rfl rfl hl.1 rfl (lv_room (Nat.le_of_ble_eq_true rfl)) dX11_reform_105 ⟨(by show _ ≤ uc; omega), (by show _ ≤ us; omega)⟩) hS (fun q _ h => hFc q h) hFc (fun w30 t H1 locs ht hvm hw hB hz1 hk1 hS => ?_)
          obtain ⟨w30, ad105_30⟩ := w30
          dsimp only at hw hB
          obtain ⟨hW, hT, hE2⟩ := hw
          obtain ⟨hP1, hK1, hD1⟩ := hB
          rw [ht] at hP1
          obtain ⟨hP, hD⟩ := jn_all (w1 := w30) hFc hP1 hD1
          replace hP : va_P (dC, dI) vwCl w30 H1 := hP
          replace hD : va_D A w30 := hD
          clear hFc hP1 hK1 hD1 hk1 hz1 ht hvm
          generalize H1 = H at hP hS ⊢
          have ea_this : ad101 this = ad105_30 this := (hE2.1 this (by rw [hk28_this]; decide)).symm
          have hk30_this := (hE2.2 this (by rw [hk28_this]; decide)).trans hk28_this
          have ea_c49_cnt : ad101 c49_cnt = ad105_30 c49_cnt := (hE2.1 c49_cnt (by rw [hk_n101]; decide)).symm
          have hk30_c49_cnt := (hE2.2 c49_cnt (by rw [hk_n101]; decide)).trans hk_n101
          rw [ea_this] at hl
          rw [ea_this, ea_c49_cnt]
          clear ea_this ea_c49_cnt
          replace hE := adE hE hE2
          clear hE2
          obtain ⟨ccn31, eccn31⟩ : ∃ y : Nat, y = (ccn29 + zv1) := ⟨_, rfl⟩
          obtain ⟨csn31, ecsn31⟩ : ∃ y : Nat, y = (csn29 + zv2) := ⟨_, rfl⟩
          refine W.widen (k := ccn31) (n := csn31) (Nat.le_of_eq eccn31.symm) (Nat.le_of_eq ecsn31.symm) ?_
          replace hu1 : ccn31 + zw1 = uc := by omega
          replace hu2 : csn31 + zw2 = us := by omega
          clear eccn31 ecsn31
          obtain ⟨i32, hi32⟩ := hW.o11 hk30_this
          refine va_put (D := (dC, dI)) (ci := 11) (v := .ref (ad105_30 c49_cnt)) (ty := (.object "SpellTurner$Reform")) (C := RX11) (T := TX11) (N := 17) hx hb hts inX11 tyX11 tyX11_ok nmX11 hown hK hP hD hS i32 hi32 rfl 4 (by decide) (hts (.fieldLink RX11 30 "SpellTurner" "draft" "LSpellTurner$Reform;") ic_560) (fun _ h9 => h9) rfl (by decide +kernel) rfl rfl (Nat.le_of_ble_eq_true rfl) dX11_reform_108 (fun H locs hP2 hD2 hS => ?_)
          obtain ⟨m108, w33, em108, hP, hD, hW⟩ : ∃ (z : Nat → Option Nat) (w : va_W), z = (va_up (c105_P 224) this (some c49_cnt)) ∧ va_P (dC, dI) vwCl w H ∧ va_D A w ∧ LW w ad105_30 kk c105_kd c105_ln c105_G (va_up c105_P 224 z) c105_U c105_V c105_X c105_O := ⟨_, _, rfl, hP2, hD2, hW.setP hD hi32 (by rw [hk30_this]; decide) 224 (some c49_cnt) (by rw [hk30_this]; rfl)⟩
          replace hT : TYP c105_kd (va_up c105_P 224 m108) c105_O (c105_V 0) c105_cnt := by rw [em108]; exact hT.setP 224 this c49_cnt hk30_c49_cnt
          replace hr := vlS hr m108 em108
          clear em108
          refine lv_aload_n hx hb dX11_reform_111 rfl (lv_at hl 1 rfl) ?_
          refine lv_iload_n hx hb dX11_reform_112 rfl (lv_at hl 2 rfl) ?_
          obtain ⟨i34, hi34⟩ := hW.o11 hk30_this
          refine va_put (D := (dC, dI)) (ci := 11) (v := .int p0) (ty := .int) (C := RX11) (T := TX11) (N := 17) hx hb hts inX11 tyX11 tyX11_ok nmX11 hown hK hP hD hS i34 hi34 rfl 3 (by decide) (hts (.fieldLink RX11 26 "SpellTurner" "latestDay" "I") ic_559) (fun _ h9 => h9) rfl (by decide +kernel) rfl rfl (Nat.le_of_ble_eq_true rfl) dX11_reform_113 (fun H locs hP2 hD2 hS => ?_)
          obtain ⟨m113, w35, em113, hP, hD, hW⟩ : ∃ (z : Nat → Int32) (w : va_W), z = (va_up (c105_G 223) this p0) ∧ va_P (dC, dI) vwCl w H ∧ va_D A w ∧ LW w ad105_30 kk c105_kd c105_ln (va_up c105_G 223 z) (va_up c105_P 224 m108) c105_U c105_V c105_X c105_O := ⟨_, _, rfl, hP2, hD2, hW.setG hD hi34 (by rw [hk30_this]; decide) 223 p0 (by rw [hk30_this]; rfl)⟩
          replace hr := vlS hr m113 em113
          clear em113
          refine lv_aload_n hx hb dX11_reform_116 rfl (lv_at hl 1 rfl) ?_
          refine lv_dup hx hb dX11_reform_117 rfl ?_
          obtain ⟨i36, hi36⟩ := hW.o11 hk30_this
          refine va_get (D := (dC, dI)) (ci := 11) (v := .int ((c105_G 222) this)) (C := RX11) (T := TX11) (N := 17) hx hb hts inX11 hown hK hP i36 hi36 rfl 2 (by decide) (hts (.fieldLink RX11 22 "SpellTurner" "reformCount" "I") ic_55) (fun _ h9 => h9) rfl dX11_reform_118 ?_
          refine lv_iconst (v := 1) hx hb dX11_reform_121 (by decide +kernel) ?_
          refine lv_iadd hx hb dX11_reform_122 ?_
          refine lv_topi (fun x123 ex123 => ?_)
          replace hr := vlS hr x123 ex123
          clear ex123
          obtain ⟨i37, hi37⟩ := hW.o11 hk30_this
          refine va_put (D := (dC, dI)) (ci := 11) (v := .int x123) (ty := .int) (C := RX11) (T := TX11) (N := 17) hx hb hts inX11 tyX11 tyX11_ok nmX11 hown hK hP hD hS i37 hi37 rfl 2 (by decide) (hts (.fieldLink RX11 22 "SpellTurner" "reformCount" "I") ic_55) (fun _ h9 => h9) rfl (by decide +kernel) rfl rfl (Nat.le_of_ble_eq_true rfl) dX11_reform_123 (fun H locs hP2 hD2 hS => ?_)
          obtain ⟨m123, w38, em123, hP, hD, hW⟩ : ∃ (z : Nat → Int32) (w : va_W), z = (va_up (c105_G 222) this x123) ∧ va_P (dC, dI) vwCl w H ∧ va_D A w ∧ LW w ad105_30 kk c105_kd c105_ln (va_up (va_up c105_G 223 m113) 222 z) (va_up c105_P 224 m108) c105_U c105_V c105_X c105_O := ⟨_, _, rfl, hP2, hD2, hW.setG hD hi37 (by rw [hk30_this]; decide) 222 x123 (by rw [hk30_this]; rfl)⟩
          replace hr := vlS hr m123 em123
          clear em123
          refine lv_aload_n hx hb dX11_reform_126 rfl (lv_at hl 1 rfl) ?_
          obtain ⟨i39, hi39⟩ := hW.o11 hk30_this
          refine va_get (D := (dC, dI)) (ci := 11) (v := .int (m123 this)) (C := RX11) (T := TX11) (N := 17) hx hb hts inX11 hown hK hP i39 hi39 rfl 2 (by decide) (hts (.fieldLink RX11 22 "SpellTurner" "reformCount" "I") ic_55) (fun _ h9 => h9) rfl dX11_reform_127 ?_
          refine lv_iconst (v := 1) hx hb dX11_reform_130 (by decide +kernel) ?_
          refine lv_isub hx hb dX11_reform_131 ?_
          replace hr := retS hr
          obtain ⟨hr, hv1, hv2⟩ := hr
          refine W.widen (k := uc) (n := us) (by omega) (by omega) ?_
          exact K 132 ls _ _ _ _ _ _ _ _ _ _ ad105_30 w38 H _ hr dX11_reform_132 hE hW hT hP hD hS
        · replace hr := iteF c70 hr
          refine lv_bipush (v := (-3)) hx hb dX11_reform_73 (by decide +kernel) ?_
          replace hr := retS hr
          obtain ⟨hr, hv1, hv2⟩ := hr
          refine W.widen (k := uc) (n := us) (by omega) (by omega) ?_
          exact K 75 ls _ _ _ _ _ _ _ _ _ _ ad49_13 w13 H _ hr dX11_reform_75 hE hW hT hP hD hS
      · replace hr := iteF c59 hr
        refine lv_iconst (v := (-1)) hx hb dX11_reform_62 (by decide +kernel) ?_
        replace hr := retS hr
        obtain ⟨hr, hv1, hv2⟩ := hr
        refine W.widen (k := uc) (n := us) (by omega) (by omega) ?_
        exact K 63 ls _ _ _ _ _ _ _ _ _ _ ad49_13 w13 H _ hr dX11_reform_63 hE hW hT hP hD hS
    · replace hr := iteF c19 hr
      exact Jj22 w3 H _ ls 0 0 _ _ hr hu1 hu2 hE hW hT hP hD hS (lv_sub hl [] rfl)
set_option maxHeartbeats 4000000 in
set_option maxRecDepth 100000 in
theorem m_X11_reform (l : Launch) (dC : Nat → ClassId) (dI : Nat → Nat → Nat) (adK adV : Nat → Nat) (kk : Nat → ClassId) (ad : Nat → Nat) (sz : Nat) (ws : va_W) (G : Nat → Nat → Int32) (P : Nat → Nat → Option Nat) (U : Nat → Nat → Int64) (V : Nat → Nat → Nat → Int32) (X : Nat → Nat → Nat → Int64) (O : Nat → Nat → Nat → Option Nat) (kd : Nat → Nat) (ln : Nat → Nat) (cnt : Nat) (this : Nat) (p0 : Int32) (hk_this : kd this = 12) (hW : LW ws ad kk kd ln G P U V X O) (hT : TYP kd P O (V 0) cnt) (r : Int32) (c_G : Nat → Nat → Int32) (c_P : Nat → Nat → Option Nat) (c_U : Nat → Nat → Int64) (c_V : Nat → Nat → Nat → Int32) (c_X : Nat → Nat → Nat → Int64) (c_O : Nat → Nat → Nat → Option Nat) (c_kd : Nat → Nat) (c_ln : Nat → Nat) (c_cnt : Nat) (uc us : Nat) (hr : f_X11_reform G P U V X O kd ln cnt this p0 = some ((r, c_G, c_P, c_U, c_V, c_X, c_O, c_kd, c_ln, c_cnt), uc, us)) : Met l yX11_reform vmX11_reform ({ frames := 10, cells := uc, slots := us, locals := 431 } : Room) (va_Pc [.ref (ad this), .int p0] (fun U => U.heap.size = sz ∧ va_P (dC, dI) vwCl ws U.heap ∧ va_K (dC, dI) vwCl (cT kk) U ∧ va_D (fun _ => True) ws ∧ SE adK adV (va_A ws sz) U ∧ EnvOK U)) (va_Qi (fun (rz : Int32) (x : (va_W × (Nat → Nat))) => rz = r ∧ LW x.1 x.2 kk c_kd c_ln c_G c_P c_U c_V c_X c_O ∧ TYP c_kd c_P c_O (c_V 0) c_cnt ∧ adEx kd ad c_kd x.2) (fun x t => va_P (dC, dI) vwCl x.1 t.heap ∧ va_K (dC, dI) vwCl (cT kk) t ∧ va_D (va_A ws sz) x.1) (va_A ws sz)) uc us (va_A ws sz) := by
  refine Met.ofW (cc := cX11_reform) (maxL := 3) (ret := (some .int)) (by decide) rfl ?_
  intro p e s m args below meth c s₁ B hml hv
  obtain ⟨rfl, hsz, hP, hK, hD0, hSE, hEn⟩ := hv
  have hx := B.exec
  have hb := B.bytes
  have hrt := B.returns
  have hts := atoms_spec (ws := vmX11_reform) B.pre
  have hown : s.vm.findClass RX11 = some m.cls := findClass_of_methodNamed B.named
  subst hsz
  have hD := hD0.self (sz := s.heap.size)
  generalize hAe : va_A ws s.heap.size = A at hD hSE ⊢
  have hA : ∀ q : Nat, s.heap.size ≤ q → A q := fun q h => by rw [← hAe]; exact Or.inr h
  have hS : va_S A s.heap s.heap [] := va_S.rf
  have hl := lv_entry ([.ref (ad this), .int p0]) (n := 3) (Nat.le_of_ble_eq_true rfl)
  rw [lg_entry_eq]
  generalize (lg_sl ([.ref (ad this), .int p0]) ++ List.replicate (3 - (lg_sl ([.ref (ad this), .int p0])).length) Slot.unset).toArray = ls at hl ⊢
  exact bm_X11_reform this p0 hk_this r c_G c_P c_U c_V c_X c_O c_kd c_ln c_cnt uc us hr hx hb hml hown hts hA hK hSE hEn hW hT hP hD hS hl (fun pc ls rz c_Gz c_Pz c_Uz c_Vz c_Xz c_Oz c_kdz c_lnz c_cntz adz ws H locs he hd hE hW hT hP hD hS => by cases he; exact W.iret (v := r) hx hb hrt (fun t ht hW9 => ⟨⟨r, (ws, adz), rfl, ⟨rfl, hW, hT, hE⟩, by rw [ht]; exact hP, va_K.moved hW9.alike hK, hD⟩, hS.F ht⟩) hS.2.2 hd)
set_option maxHeartbeats 4000000 in
set_option maxRecDepth 100000 in
theorem bm_X0_fill {p : Program} {l : Launch} {e : Env} {s : State} {m : MethodId} {args : Array Value} {below : List Frame} {meth : Method} {c : Code} {Q : State → Prop} {A : Nat → Prop} {dC : Nat → ClassId} {dI : Nat → Nat → Nat} {kk : Nat → ClassId} {ad : Nat → Nat} {ws : va_W} {G : Nat → Nat → Int32} {P : Nat → Nat → Option Nat} {U : Nat → Nat → Int64} {V : Nat → Nat → Nat → Int32} {X : Nat → Nat → Nat → Int64} {O : Nat → Nat → Nat → Option Nat} {kd : Nat → Nat} {ln : Nat → Nat} {cnt : Nat} {H : Heap} {locs : List Loc} {ls : Array Slot} (this : Nat) (p0 : Int32) (p1 : Nat) (p2 : Nat) (hk_this : kd this = 1) (hk_p1 : kd p1 = 302) (hk_p2 : kd p2 = 10) (c_G : Nat → Nat → Int32) (c_P : Nat → Nat → Option Nat) (c_U : Nat → Nat → Int64) (c_V : Nat → Nat → Nat → Int32) (c_X : Nat → Nat → Nat → Int64) (c_O : Nat → Nat → Nat → Option Nat) (c_kd : Nat → Nat) (c_ln : Nat → Nat) (c_cnt : Nat) (uc us : Nat) (hr : f_X0_fill G P U V X O kd ln cnt this p0 p1 p2 = some ((c_G, c_P, c_U, c_V, c_X, c_O, c_kd, c_ln, c_cnt), uc, us)) (hx : p.tables.exec = Jvm.exec) (hb : c.code = cX0_fill) (hml : c.maxLocals = 7) (hown : s.vm.findClass RX0 = some m.cls) (hts : ∀ w ∈ vmX0_fill, w.before args s = true) (hA : ∀ q : Nat, s.heap.size ≤ q → A q) (hK : va_K (dC, dI) vwCl (cT kk) s) (hW : LW ws ad kk kd ln G P U V X O) (hT : TYP kd P O (V 0) cnt) (hP : va_P (dC, dI) vwCl ws H) (hD : va_D A ws) (hS : va_S A s.heap H locs) (hl : lv_has ls 7 [(0, .ref (ad this)), (1, .int p0), (2, .ref (ad p1)), (3, .ref (ad p2))])
    (K : ∀ (pc : Nat) (ls : Array Slot) (c_Gz : Nat → Nat → Int32) (c_Pz : Nat → Nat → Option Nat) (c_Uz : Nat → Nat → Int64) (c_Vz : Nat → Nat → Nat → Int32) (c_Xz : Nat → Nat → Nat → Int64) (c_Oz : Nat → Nat → Nat → Option Nat) (c_kdz : Nat → Nat) (c_lnz : Nat → Nat) (c_cntz : Nat) (adz : Nat → Nat) (ws : va_W) (H : Heap) (locs : List Loc), some (c_Gz, c_Pz, c_Uz, c_Vz, c_Xz, c_Oz, c_kdz, c_lnz, c_cntz) = some (c_G, c_P, c_U, c_V, c_X, c_O, c_kd, c_ln, c_cnt) → decode cX0_fill pc = .ok (.return_, 1) → adEx kd ad c_kdz adz → LW ws adz kk c_kdz c_lnz c_Gz c_Pz c_Uz c_Vz c_Xz c_Oz → TYP c_kdz c_Pz c_Oz (c_Vz 0) c_cntz → va_P (dC, dI) vwCl ws H → va_D A ws → va_S A s.heap H locs → W p l e ({ frames := 48, cells := uc, slots := us, locals := 1247 } : Room) s m args below meth c H locs uc us Q (F0 m pc ls [])) : W p l e ({ frames := 48, cells := uc, slots := us, locals := 1247 } : Room) s m args below meth c H locs 0 0 Q (F0 m 0 ls []) := by
  have hu1 : 0 + uc = uc := Nat.zero_add _
  have hu2 : 0 + us = us := Nat.zero_add _
  have hE : adEx kd ad kd ad := ⟨fun _ _ => rfl, fun _ _ => rfl⟩
  unfold f_X0_fill at hr
  refine lv_iconst (v := 0) hx hb dX0_fill_0 (by decide +kernel) ?_
  refine lv_istore (lv' := [(4, .int 0), (0, .ref (ad this)), (1, .int p0), (2, .ref (ad p1)), (3, .ref (ad p2))]) hx hb dX0_fill_1 hl (by decide) rfl (fun ls hl => ?_)
  replace hr := jnS hr
  obtain ⟨k194, hk194, hr⟩ := hr
  have Jk194 : ∀ (c194_G : Nat → Nat → Int32) (c194_P : Nat → Nat → Option Nat) (c194_U : Nat → Nat → Int64) (c194_V : Nat → Nat → Nat → Int32) (c194_X : Nat → Nat → Nat → Int64) (c194_O : Nat → Nat → Nat → Option Nat) (c194_kd : Nat → Nat) (c194_ln : Nat → Nat) (c194_cnt : Nat) (ad194 : Nat → Nat) (ws : va_W) (H : Heap) (locs : List Loc) (ls : Array Slot) (cc cs u1 u2 : Nat), k194 c194_G c194_P c194_U c194_V c194_X c194_O c194_kd c194_ln c194_cnt = some ((c_G, c_P, c_U, c_V, c_X, c_O, c_kd, c_ln, c_cnt), u1, u2) → cc + u1 = uc → cs + u2 = us → adEx kd ad c194_kd ad194 → LW ws ad194 kk c194_kd c194_ln c194_G c194_P c194_U c194_V c194_X c194_O → TYP c194_kd c194_P c194_O (c194_V 0) c194_cnt → va_P (dC, dI) vwCl ws H → va_D A ws → va_S A s.heap H locs → lv_has ls 7 [] → W p l e ({ frames := 48, cells := uc, slots := us, locals := 1247 } : Room) s m args below meth c H locs cc cs Q (F0 m 194 ls []) := by
    intro c194_G c194_P c194_U c194_V c194_X c194_O c194_kd c194_ln c194_cnt ad194 ws H locs ls cc cs u1 u2 hr hu1 hu2 hE hW hT hP hD hS hl
    rw [hk194] at hr
    replace hr := retS hr
    obtain ⟨hr, hv1, hv2⟩ := hr
    refine W.widen (k := uc) (n := us) (by omega) (by omega) ?_
    exact K 194 ls _ _ _ _ _ _ _ _ _ ad194 ws H _ hr dX0_fill_194 hE hW hT hP hD hS
  have lp3 : ∀ (n3 : Nat), ∀ (y3_4 : Int32) (d3_G : Nat → Nat → Int32) (d3_P : Nat → Nat → Option Nat) (d3_U : Nat → Nat → Int64) (d3_V : Nat → Nat → Nat → Int32) (d3_X : Nat → Nat → Nat → Int64) (d3_O : Nat → Nat → Nat → Option Nat) (d3_kd : Nat → Nat) (d3_ln : Nat → Nat) (d3_cnt : Nat) (ad3 : Nat → Nat) (ws : va_W) (H : Heap) (locs : List Loc) (ls : Array Slot) (cc cs u1 u2 : Nat), L_X0_fill_3 this p0 p1 p2 k194 n3 y3_4 d3_G d3_P d3_U d3_V d3_X d3_O d3_kd d3_ln d3_cnt = some ((c_G, c_P, c_U, c_V, c_X, c_O, c_kd, c_ln, c_cnt), u1, u2) → cc + u1 = uc → cs + u2 = us → adEx kd ad d3_kd ad3 → LW ws ad3 kk d3_kd d3_ln d3_G d3_P d3_U d3_V d3_X d3_O → TYP d3_kd d3_P d3_O (d3_V 0) d3_cnt → va_P (dC, dI) vwCl ws H → va_D A ws → va_S A s.heap H locs → lv_has ls 7 [(0, .ref (ad3 this)), (1, .int p0), (2, .ref (ad3 p1)), (3, .ref (ad3 p2)), (4, .int y3_4)] → d3_kd this = 1 → d3_kd p1 = 302 → d3_kd p2 = 10 → W p l e ({ frames := 48, cells := uc, slots := us, locals := 1247 } : Room) s m args below meth c H locs cc cs Q (F0 m 3 ls []) := by
    intro n3
    induction n3 with
    | zero => intro y3_4 d3_G d3_P d3_U d3_V d3_X d3_O d3_kd d3_ln d3_cnt ad3 ws H locs ls cc cs u1 u2 hr hu1 hu2 hE hW hT hP hD hS hl hk_thisn3 hk_p1n3 hk_p2n3; exact nomatch (show none = some ((c_G, c_P, c_U, c_V, c_X, c_O, c_kd, c_ln, c_cnt), u1, u2) from hr)
    | succ n3 ih3 =>
      intro y3_4 d3_G d3_P d3_U d3_V d3_X d3_O d3_kd d3_ln d3_cnt ad3 ws H locs ls cc cs u1 u2 hr hu1 hu2 hE hW hT hP hD hS hl hk_thisn3 hk_p1n3 hk_p2n3
      replace hr : B_X0_fill_3 this p0 p1 p2 k194 (L_X0_fill_3 this p0 p1 p2 k194 n3) y3_4 d3_G d3_P d3_U d3_V d3_X d3_O d3_kd d3_ln d3_cnt = some ((c_G, c_P, c_U, c_V, c_X, c_O, c_kd, c_ln, c_cnt), u1, u2) := hr
      unfold B_X0_fill_3 at hr
      refine lv_iload hx hb dX0_fill_3 (lv_at hl 4 rfl) ?_
      refine lv_iload_n hx hb dX0_fill_5 rfl (lv_at hl 1 rfl) ?_
      refine lv_icmp_gt (tgt := 194) hx hb dX0_fill_6 (by decide) (fun c6 => ?_) (fun c6 => ?_)
      · replace hr := iteT c6 hr
        exact Jk194 d3_G d3_P d3_U d3_V d3_X d3_O d3_kd d3_ln d3_cnt ad3 ws H _ ls cc cs _ _ hr hu1 hu2 hE hW hT hP hD hS (lv_sub hl [] rfl)
      · replace hr := iteF c6 hr
        refine lv_iload hx hb dX0_fill_9 (lv_at hl 4 rfl) ?_
        refine lv_bipush (v := 7) hx hb dX0_fill_11 (by decide +kernel) ?_
        refine lv_icmp_ge (tgt := 194) hx hb dX0_fill_13 (by decide) (fun c13 => ?_) (fun c13 => ?_)
        · replace hr := iteT c13 hr
          exact Jk194 d3_G d3_P d3_U d3_V d3_X d3_O d3_kd d3_ln d3_cnt ad3 ws H _ ls cc cs _ _ hr hu1 hu2 hE hW hT hP hD hS (lv_sub hl [] rfl)
        · replace hr := iteF c13 hr
          refine lv_aload_n hx hb dX0_fill_16 rfl (lv_at hl 0 rfl) ?_
          obtain ⟨i1, hi1⟩ := hW.o0 hk_thisn3
          replace hr := nnS hr
          obtain ⟨a17, hn17, hr⟩ := hr
          have hk_a17 : d3_kd a17 = 103 := hT.1 3 _ _ hn17
          refine va_get (D := (dC, dI)) (ci := 0) (v := .ref (ad3 a17)) (C := RX0) (T := TX0) (N := 6) hx hb hts inX0 hown hK hP i1 hi1 rfl 3 (by decide) (hts (.fieldLink RX0 28 "SpellTurner$Book" "filled" "[I") ic_574) (fun _ h9 => h9) (congrArg (fun o => some (va_re ad3 o)) hn17) dX0_fill_17 ?_
          refine lv_iload hx hb dX0_fill_20 (lv_at hl 4 rfl) ?_
          obtain ⟨i2, hi2⟩ := hW.v3 hk_a17
          replace hr := iteS hr
          obtain ⟨hi22, hr⟩ := hr
          refine va_iald (f := ((d3_V 3) a17)) hx hb hK hP i2 1 hi2 rfl (inbV hi22) dX0_fill_22 ?_
          refine lv_topi (fun x23 ex23 => ?_)
          replace hr := vlS hr x23 ex23
          clear ex23
          refine lv_istore (lv' := [(5, .int x23), (0, .ref (ad3 this)), (1, .int p0), (2, .ref (ad3 p1)), (3, .ref (ad3 p2)), (4, .int y3_4)]) hx hb dX0_fill_23 hl (by decide) rfl (fun ls hl => ?_)
          replace hr := jnS hr
          obtain ⟨k174, hk174, hr⟩ := hr
          have Jk174 : ∀ (c174_G : Nat → Nat → Int32) (c174_P : Nat → Nat → Option Nat) (c174_U : Nat → Nat → Int64) (c174_V : Nat → Nat → Nat → Int32) (c174_X : Nat → Nat → Nat → Int64) (c174_O : Nat → Nat → Nat → Option Nat) (c174_kd : Nat → Nat) (c174_ln : Nat → Nat) (c174_cnt : Nat) (ad174 : Nat → Nat) (ws : va_W) (H : Heap) (locs : List Loc) (ls : Array Slot) (cc cs u1 u2 : Nat), k174 c174_G c174_P c174_U c174_V c174_X c174_O c174_kd c174_ln c174_cnt = some ((c_G, c_P, c_U, c_V, c_X, c_O, c_kd, c_ln, c_cnt), u1, u2) → cc + u1 = uc → cs + u2 = us → adEx kd ad c174_kd ad174 → LW ws ad174 kk c174_kd c174_ln c174_G c174_P c174_U c174_V c174_X c174_O → TYP c174_kd c174_P c174_O (c174_V 0) c174_cnt → va_P (dC, dI) vwCl ws H → va_D A ws → va_S A s.heap H locs → lv_has ls 7 [(0, .ref (ad174 this)), (1, .int p0), (2, .ref (ad174 p1)), (3, .ref (ad174 p2)), (4, .int y3_4)] → c174_kd this = 1 → c174_kd p1 = 302 → c174_kd p2 = 10 → W p l e ({ frames := 48, cells := uc, slots := us, locals := 1247 } : Room) s m args below meth c H locs cc cs Q (F0 m 174 ls []) := by
            intro c174_G c174_P c174_U c174_V c174_X c174_O c174_kd c174_ln c174_cnt ad174 ws H locs ls cc cs u1 u2 hr hu1 hu2 hE hW hT hP hD hS hl hk_thisn3n174 hk_p1n3n174 hk_p2n3n174
            rw [hk174] at hr
            refine lv_aload_n hx hb dX0_fill_174 rfl (lv_at hl 0 rfl) ?_
            obtain ⟨i3, hi3⟩ := hW.o0 hk_thisn3n174
            replace hr := nnS hr
            obtain ⟨a175, hn175, hr⟩ := hr
            have hk_a175 : c174_kd a175 = 103 := hT.1 3 _ _ hn175
            refine va_get (D := (dC, dI)) (ci := 0) (v := .ref (ad174 a175)) (C := RX0) (T := TX0) (N := 6) hx hb hts inX0 hown hK hP i3 hi3 rfl 3 (by decide) (hts (.fieldLink RX0 28 "SpellTurner$Book" "filled" "[I") ic_574) (fun _ h9 => h9) (congrArg (fun o => some (va_re ad174 o)) hn175) dX0_fill_175 ?_
            refine lv_iload hx hb dX0_fill_178 (lv_at hl 4 rfl) ?_
            refine lv_aload_n hx hb dX0_fill_180 rfl (lv_at hl 0 rfl) ?_
            obtain ⟨i4, hi4⟩ := hW.o0 hk_thisn3n174
            replace hr := nnS hr
            obtain ⟨a181, hn181, hr⟩ := hr
            have hk_a181 : c174_kd a181 = 11 := hT.1 0 _ _ hn181
            refine va_get (D := (dC, dI)) (ci := 0) (v := .ref (ad174 a181)) (C := RX0) (T := TX0) (N := 6) hx hb hts inX0 hown hK hP i4 hi4 rfl 0 (by decide) (hts (.fieldLink RX0 14 "SpellTurner$Book" "words" "LSpellTurner$WordRow;") ic_92) (fun _ h9 => h9) (congrArg (fun o => some (va_re ad174 o)) hn181) dX0_fill_181 ?_
            obtain ⟨i5, hi5⟩ := hW.o10 hk_a181
            refine va_get (D := (dC, dI)) (ci := 10) (v := .int ((c174_G 203) a181)) (C := RX10) (T := TX10) (N := 4) hx hb hts inX10 hown hK hP i5 hi5 rfl 3 (by decide) (hts (.fieldLink RX0 38 "SpellTurner$WordRow" "count" "I") ic_82) (fun _ h9 => h9) rfl dX0_fill_184 ?_
            obtain ⟨i6, hi6⟩ := hW.v3 hk_a175
            replace hr := iteS hr
            obtain ⟨hi187, hr⟩ := hr
            refine va_iast (f := ((c174_V 3) a175)) hx hb hK hP hD hS i6 1 hi6 rfl (inbV hi187) dX0_fill_187 (fun H locs hP2 hD2 hS => ?_)
            obtain ⟨m187, w7, em187, hP, hD, hW⟩ : ∃ (z : Nat → Nat → Int32) (w : va_W), z = (va_up (c174_V 3) a175 (upd ((c174_V 3) a175) (Int32.toNatClampNeg y3_4) ((c174_G 203) a181))) ∧ va_P (dC, dI) vwCl w H ∧ va_D A w ∧ LW w ad174 kk c174_kd c174_ln c174_G c174_P c174_U (va_up c174_V 3 z) c174_X c174_O := ⟨_, _, rfl, hP2, hD2, hW.setV hD hi6 (by rw [hk_a175]; decide) 3 (upd ((c174_V 3) a175) (Int32.toNatClampNeg y3_4) ((c174_G 203) a181)) (by rw [hk_a175]; rfl)⟩
            replace hr := vlS hr m187 em187
            clear em187
            refine lv_iinc (v := (y3_4 + 1)) (lv' := [(4, .int (y3_4 + 1)), (0, .ref (ad174 this)), (1, .int p0), (2, .ref (ad174 p1)), (3, .ref (ad174 p2))]) hx hb dX0_fill_188 hl (k := 4) rfl rfl (by decide) rfl (fun ls hl => ?_)
            refine lv_goto (tgt := 3) hx hb dX0_fill_191 (by decide) ?_
            exact ih3 (y3_4 + 1) c174_G c174_P c174_U (va_up c174_V 3 m187) c174_X c174_O c174_kd c174_ln c174_cnt ad174 w7 H _ ls cc cs _ _ hr hu1 hu2 hE hW hT hP hD hS (lv_sub hl [1, 2, 3, 4, 0] rfl) hk_thisn3n174 hk_p1n3n174 hk_p2n3n174
          have lp25 : ∀ (n25 : Nat), ∀ (y25_5 : Int32) (d25_G : Nat → Nat → Int32) (d25_P : Nat → Nat → Option Nat) (d25_U : Nat → Nat → Int64) (d25_V : Nat → Nat → Nat → Int32) (d25_X : Nat → Nat → Nat → Int64) (d25_O : Nat → Nat → Nat → Option Nat) (d25_kd : Nat → Nat) (d25_ln : Nat → Nat) (d25_cnt : Nat) (ad25 : Nat → Nat) (ws : va_W) (H : Heap) (locs : List Loc) (ls : Array Slot) (cc cs u1 u2 : Nat), L_X0_fill_25 this p1 p2 y3_4 k174 n25 y25_5 d25_G d25_P d25_U d25_V d25_X d25_O d25_kd d25_ln d25_cnt = some ((c_G, c_P, c_U, c_V, c_X, c_O, c_kd, c_ln, c_cnt), u1, u2) → cc + u1 = uc → cs + u2 = us → adEx kd ad d25_kd ad25 → LW ws ad25 kk d25_kd d25_ln d25_G d25_P d25_U d25_V d25_X d25_O → TYP d25_kd d25_P d25_O (d25_V 0) d25_cnt → va_P (dC, dI) vwCl ws H → va_D A ws → va_S A s.heap H locs → lv_has ls 7 [(0, .ref (ad25 this)), (1, .int p0), (2, .ref (ad25 p1)), (3, .ref (ad25 p2)), (4, .int y3_4), (5, .int y25_5)] → d25_kd this = 1 → d25_kd p1 = 302 → d25_kd p2 = 10 → W p l e ({ frames := 48, cells := uc, slots := us, locals := 1247 } : Room) s m args below meth c H locs cc cs Q (F0 m 25 ls []) := by
            intro n25
            induction n25 with
            | zero => intro y25_5 d25_G d25_P d25_U d25_V d25_X d25_O d25_kd d25_ln d25_cnt ad25 ws H locs ls cc cs u1 u2 hr hu1 hu2 hE hW hT hP hD hS hl hk_thisn3n25 hk_p1n3n25 hk_p2n3n25; exact nomatch (show none = some ((c_G, c_P, c_U, c_V, c_X, c_O, c_kd, c_ln, c_cnt), u1, u2) from hr)
            | succ n25 ih25 =>
              intro y25_5 d25_G d25_P d25_U d25_V d25_X d25_O d25_kd d25_ln d25_cnt ad25 ws H locs ls cc cs u1 u2 hr hu1 hu2 hE hW hT hP hD hS hl hk_thisn3n25 hk_p1n3n25 hk_p2n3n25
              replace hr : B_X0_fill_25 this p1 p2 y3_4 k174 (L_X0_fill_25 this p1 p2 y3_4 k174 n25) y25_5 d25_G d25_P d25_U d25_V d25_X d25_O d25_kd d25_ln d25_cnt = some ((c_G, c_P, c_U, c_V, c_X, c_O, c_kd, c_ln, c_cnt), u1, u2) := hr
              unfold B_X0_fill_25 at hr
              refine lv_iload hx hb dX0_fill_25 (lv_at hl 5 rfl) ?_
              refine lv_aload_n hx hb dX0_fill_27 rfl (lv_at hl 0 rfl) ?_
              obtain ⟨i8, hi8⟩ := hW.o0 hk_thisn3n25
              replace hr := nnS hr
              obtain ⟨a28, hn28, hr⟩ := hr
              have hk_a28 : d25_kd a28 = 11 := hT.1 0 _ _ hn28
              refine va_get (D := (dC, dI)) (ci := 0) (v := .ref (ad25 a28)) (C := RX0) (T := TX0) (N := 6) hx hb hts inX0 hown hK hP i8 hi8 rfl 0 (by decide) (hts (.fieldLink RX0 14 "SpellTurner$Book" "words" "LSpellTurner$WordRow;") ic_92) (fun _ h9 => h9) (congrArg (fun o => some (va_re ad25 o)) hn28) dX0_fill_28 ?_
              obtain ⟨i9, hi9⟩ := hW.o10 hk_a28
              refine va_get (D := (dC, dI)) (ci := 10) (v := .int ((d25_G 203) a28)) (C := RX10) (T := TX10) (N := 4) hx hb hts inX10 hown hK hP i9 hi9 rfl 3 (by decide) (hts (.fieldLink RX0 38 "SpellTurner$WordRow" "count" "I") ic_82) (fun _ h9 => h9) rfl dX0_fill_31 ?_
              refine lv_icmp_ge (tgt := 174) hx hb dX0_fill_34 (by decide) (fun c34 => ?_) (fun c34 => ?_)
              · replace hr := iteT c34 hr
                exact Jk174 d25_G d25_P d25_U d25_V d25_X d25_O d25_kd d25_ln d25_cnt ad25 ws H _ ls cc cs _ _ hr hu1 hu2 hE hW hT hP hD hS (lv_sub hl [0, 1, 2, 3, 4] rfl) hk_thisn3n25 hk_p1n3n25 hk_p2n3n25
              · replace hr := iteF c34 hr
                refine lv_aload_n hx hb dX0_fill_37 rfl (lv_at hl 0 rfl) ?_
                obtain ⟨i10, hi10⟩ := hW.o0 hk_thisn3n25
                replace hr := nnS hr
                obtain ⟨a38, hn38, hr⟩ := hr
                have hk_a38 : d25_kd a38 = 11 := hT.1 4 _ _ hn38
                refine va_get (D := (dC, dI)) (ci := 0) (v := .ref (ad25 a38)) (C := RX0) (T := TX0) (N := 6) hx hb hts inX0 hown hK hP i10 hi10 rfl 4 (by decide) (hts (.fieldLink RX0 32 "SpellTurner$Book" "spare" "LSpellTurner$WordRow;") ic_575) (fun _ h9 => h9) (congrArg (fun o => some (va_re ad25 o)) hn38) dX0_fill_38 ?_
                refine lv_iconst (v := 0) hx hb dX0_fill_41 (by decide +kernel) ?_
                obtain ⟨i11, hi11⟩ := hW.o10 hk_a38
                refine va_put (D := (dC, dI)) (ci := 10) (v := .int 0) (ty := .int) (C := RX10) (T := TX10) (N := 4) hx hb hts inX10 tyX10 tyX10_ok nmX10 hown hK hP hD hS i11 hi11 rfl 3 (by decide) (hts (.fieldLink RX0 38 "SpellTurner$WordRow" "count" "I") ic_82) (fun _ h9 => h9) rfl (by decide +kernel) rfl rfl (Nat.le_of_ble_eq_true rfl) dX0_fill_42 (fun H locs hP2 hD2 hS => ?_)
                obtain ⟨m42, w12, em42, hP, hD, hW⟩ : ∃ (z : Nat → Int32) (w : va_W), z = (va_up (d25_G 203) a38 0) ∧ va_P (dC, dI) vwCl w H ∧ va_D A w ∧ LW w ad25 kk d25_kd d25_ln (va_up d25_G 203 z) d25_P d25_U d25_V d25_X d25_O := ⟨_, _, rfl, hP2, hD2, hW.setG hD hi11 (by rw [hk_a38]; decide) 203 0 (by rw [hk_a38]; rfl)⟩
                replace hr := vlS hr m42 em42
                clear em42
                refine lv_iload hx hb dX0_fill_45 (lv_at hl 4 rfl) ?_
                replace hr := jnS hr
                obtain ⟨j126, hj126, hr⟩ := hr
                have Jj126 : ∀ (c126_G60 : Nat → Int32) (c126_G183 : Nat → Int32) (c126_G203 : Nat → Int32) (c126_P66 : Nat → Option Nat) (c126_P181 : Nat → Option Nat) (c126_P182 : Nat → Option Nat) (c126_U184 : Nat → Int64) (c126_V0 : Nat → Nat → Int32) (c126_V1 : Nat → Nat → Int32) (c126_V2 : Nat → Nat → Int32) (c126_V12 : Nat → Nat → Int32) (c126_X1 : Nat → Nat → Int64) (ad25 : Nat → Nat) (ws : va_W) (H : Heap) (locs : List Loc) (ls : Array Slot) (cc cs u1 u2 : Nat), j126 c126_G60 c126_G183 c126_G203 c126_P66 c126_P181 c126_P182 c126_U184 c126_V0 c126_V1 c126_V2 c126_V12 c126_X1 = some ((c_G, c_P, c_U, c_V, c_X, c_O, c_kd, c_ln, c_cnt), u1, u2) → cc + u1 = uc → cs + u2 = us → adEx kd ad d25_kd ad25 → LW ws ad25 kk d25_kd d25_ln (va_up (va_up (va_up d25_G 60 c126_G60) 183 c126_G183) 203 c126_G203) (va_up (va_up (va_up d25_P 66 c126_P66) 181 c126_P181) 182 c126_P182) (va_up d25_U 184 c126_U184) (va_up (va_up (va_up (va_up d25_V 0 c126_V0) 1 c126_V1) 2 c126_V2) 12 c126_V12) (va_up d25_X 1 c126_X1) d25_O → TYP d25_kd (va_up (va_up (va_up d25_P 66 c126_P66) 181 c126_P181) 182 c126_P182) d25_O c126_V0 d25_cnt → va_P (dC, dI) vwCl ws H → va_D A ws → va_S A s.heap H locs → lv_has ls 7 [(0, .ref (ad25 this)), (1, .int p0), (2, .ref (ad25 p1)), (3, .ref (ad25 p2)), (4, .int y3_4), (5, .int y25_5)] → W p l e ({ frames := 48, cells := uc, slots := us, locals := 1247 } : Room) s m args below meth c H locs cc cs Q (F0 m 126 ls []) := by
                  intro c126_G60 c126_G183 c126_G203 c126_P66 c126_P181 c126_P182 c126_U184 c126_V0 c126_V1 c126_V2 c126_V12 c126_X1 ad25 ws H locs ls cc cs u1 u2 hr hu1 hu2 hE hW hT hP hD hS hl
                  rw [hj126] at hr
                  replace hr := tkS hr
                  obtain ⟨zw1, zw2, hr, hq1, hq2⟩ := hr
                  refine va_new (ci := 10) (fs := [.int 0, .null, .null, .int 0]) (C := RX10) (T := TX10) (N := 4) hx hb hts inX10 tyX10 tyX10_ok hown (hts (.classLink RX0 9 RX10) ic_576) (hts (.instantiable RX10 4) ic_505) (hts (.initialized RX10) ic_12) hK hP hD hS hA rfl (fun j hj => match j, hj with | 0, _ => rfl | 1, _ => rfl | 2, _ => rfl | 3, _ => rfl | j + 4, hj => absurd hj (by omega)) (by show _ ≤ uc; omega) (by show _ ≤ us; omega) dX0_fill_126 (fun q126 H hP2 hD2 hS => ?_)
                  replace hr := newcS hr hW hT hD2 (by decide) (fun _ => rfl)
                  obtain ⟨G126, P126, U126, V126, X126, O126, kd126, ln126, cnt126, ad126, hr, hW, hT, hE2, hk_n126, hqa⟩ := hr
                  subst hqa
                  obtain ⟨w13, hP, hD, hW⟩ : ∃ w : va_W, va_P (dC, dI) vwCl w H ∧ va_D A w ∧ LW w ad126 kk kd126 ln126 G126 P126 U126 V126 X126 O126 := ⟨_, hP2, hD2, hW⟩
                  clear hP2 hD2
                  have ea_this : ad25 this = ad126 this := (hE2.1 this (by rw [hk_thisn3n25]; decide)).symm
                  have hk13_this := (hE2.2 this (by rw [hk_thisn3n25]; decide)).trans hk_thisn3n25
                  have ea_p1 : ad25 p1 = ad126 p1 := (hE2.1 p1 (by rw [hk_p1n3n25]; decide)).symm
                  have hk13_p1 := (hE2.2 p1 (by rw [hk_p1n3n25]; decide)).trans hk_p1n3n25
                  have ea_p2 : ad25 p2 = ad126 p2 := (hE2.1 p2 (by rw [hk_p2n3n25]; decide)).symm
                  have hk13_p2 := (hE2.2 p2 (by rw [hk_p2n3n25]; decide)).trans hk_p2n3n25
                  rw [ea_this, ea_p1, ea_p2] at hl
                  clear ea_this ea_p1 ea_p2
                  replace hE := adE hE hE2
                  clear hE2
                  obtain ⟨ccn14, eccn14⟩ : ∃ y : Nat, y = (cc + 1) := ⟨_, rfl⟩
                  obtain ⟨csn14, ecsn14⟩ : ∃ y : Nat, y = (cs + 4) := ⟨_, rfl⟩
                  refine W.widen (k := ccn14) (n := csn14) (Nat.le_of_eq eccn14.symm) (Nat.le_of_eq ecsn14.symm) ?_
                  replace hu1 : ccn14 + zw1 = uc := by omega
                  replace hu2 : csn14 + zw2 = us := by omega
                  clear eccn14 ecsn14
                  refine lv_dup hx hb dX0_fill_129 rfl ?_
                  refine lv_aload_n hx hb dX0_fill_130 rfl (lv_at hl 0 rfl) ?_
                  obtain ⟨i15, hi15⟩ := hW.o0 hk13_this
                  replace hr := nnS hr
                  obtain ⟨a131, hn131, hr⟩ := hr
                  have hk_a131 : kd126 a131 = 11 := hT.1 4 _ _ hn131
                  refine va_get (D := (dC, dI)) (ci := 0) (v := .ref (ad126 a131)) (C := RX0) (T := TX0) (N := 6) hx hb hts inX0 hown hK hP i15 hi15 rfl 4 (by decide) (hts (.fieldLink RX0 32 "SpellTurner$Book" "spare" "LSpellTurner$WordRow;") ic_575) (fun _ h9 => h9) (congrArg (fun o => some (va_re ad126 o)) hn131) dX0_fill_131 ?_
                  obtain ⟨i16, hi16⟩ := hW.o10 hk_a131
                  refine va_get (D := (dC, dI)) (ci := 10) (v := .int ((G126 203) a131)) (C := RX10) (T := TX10) (N := 4) hx hb hts inX10 hown hK hP i16 hi16 rfl 3 (by decide) (hts (.fieldLink RX0 38 "SpellTurner$WordRow" "count" "I") ic_82) (fun _ h9 => h9) rfl dX0_fill_134 ?_
                  refine lv_bipush (v := 24) hx hb dX0_fill_137 (by decide +kernel) ?_
                  replace hr := bA9S hr
                  obtain ⟨c139_G, c139_P, c139_U, c139_V, c139_X, c139_O, c139_kd, c139_ln, c139_cnt, zv1, zv2, zw1, zw2, hc139, hr, hq1, hq2⟩ := hr
                  have hFc := fr_all hD hS hA
                  refine va_callv (va_runI (As := [.int ((G126 203) a131), .int 24]) (rest := [.ref (ad126 d25_cnt)]) ⟨hx, hb, hml, hown, hts⟩ (m_X10_init l dC dI kk ad126 H.size w13 G126 P126 U126 V126 X126 O126 kd126 ln126 cnt126 d25_cnt ((G126 203) a131) 24 hk_n126 hW hT c139_G c139_P c139_U c139_V c139_X c139_O c139_kd c139_ln c139_cnt zv1 zv2 hc139) (cwI 2 hts (lwC_code ic_492) rfl rfl rfl (hts (.initialized RX10) ic_12) (hts (.methodLink RX0 11 yX10_init) ic_577) (hts (.instanceMethod yX10_init) ic_507) rfl (by decide +kernel) ⟨Nat.le_of_ble_eq_true rfl, Nat.le_of_ble_eq_true rfl⟩) ⟨fun a U g mk q => by obtain ⟨q0, q1, qP, qK, qD⟩ := q; exact ⟨q0, q1, qP, va_K.moved (u := U) (U := U.calling g mk a) (Vm.Alike.refl U.vm) qK, qD⟩, fun U hU hW => ⟨rfl, by rw [hU], by rw [hU]; exact hP, va_K.moved hW.alike hK, hD.weaken (fun _ _ _ _ => trivial)⟩⟩ rfl rfl hl.1 rfl (lv_room (Nat.le_of_ble_eq_true rfl)) dX0_fill_139 ⟨(by show _ ≤ uc; omega), (by show _ ≤ us; omega)⟩) hS (fun q _ h => hFc q h) hFc (fun w17 t H1 locs ht hvm hw hB hz1 hk1 hS => ?_)
                  obtain ⟨w17, ad139_17⟩ := w17
                  dsimp only at hw hB
                  obtain ⟨hW, hT, hE2⟩ := hw
                  obtain ⟨hP1, hK1, hD1⟩ := hB
                  rw [ht] at hP1
                  obtain ⟨hP, hD⟩ := jn_all (w1 := w17) hFc hP1 hD1
                  replace hP : va_P (dC, dI) vwCl w17 H1 := hP
                  replace hD : va_D A w17 := hD
                  clear hFc hP1 hK1 hD1 hk1 hz1 ht hvm
                  generalize H1 = H at hP hS ⊢
                  have ea_this : ad126 this = ad139_17 this := (hE2.1 this (by rw [hk13_this]; decide)).symm
                  have hk17_this := (hE2.2 this (by rw [hk13_this]; decide)).trans hk13_this
                  have ea_p1 : ad126 p1 = ad139_17 p1 := (hE2.1 p1 (by rw [hk13_p1]; decide)).symm
                  have hk17_p1 := (hE2.2 p1 (by rw [hk13_p1]; decide)).trans hk13_p1
                  have ea_p2 : ad126 p2 = ad139_17 p2 := (hE2.1 p2 (by rw [hk13_p2]; decide)).symm
                  have hk17_p2 := (hE2.2 p2 (by rw [hk13_p2]; decide)).trans hk13_p2
                  have ea_d25_cnt : ad126 d25_cnt = ad139_17 d25_cnt := (hE2.1 d25_cnt (by rw [hk_n126]; decide)).symm
                  have hk17_d25_cnt := (hE2.2 d25_cnt (by rw [hk_n126]; decide)).trans hk_n126
                  rw [ea_this, ea_p1, ea_p2] at hl
                  rw [ea_d25_cnt]
                  clear ea_this ea_p1 ea_p2 ea_d25_cnt
                  replace hE := adE hE hE2
                  clear hE2
                  obtain ⟨ccn18, eccn18⟩ : ∃ y : Nat, y = (ccn14 + zv1) := ⟨_, rfl⟩
                  obtain ⟨csn18, ecsn18⟩ : ∃ y : Nat, y = (csn14 + zv2) := ⟨_, rfl⟩
                  refine W.widen (k := ccn18) (n := csn18) (Nat.le_of_eq eccn18.symm) (Nat.le_of_eq ecsn18.symm) ?_
                  replace hu1 : ccn18 + zw1 = uc := by omega
                  replace hu2 : csn18 + zw2 = us := by omega
                  clear eccn18 ecsn18
                  refine lv_astore (lv' := [(6, .ref (ad139_17 d25_cnt)), (0, .ref (ad139_17 this)), (1, .int p0), (2, .ref (ad139_17 p1)), (3, .ref (ad139_17 p2)), (4, .int y3_4), (5, .int y25_5)]) hx hb dX0_fill_142 hl (by decide) rfl (fun ls hl => ?_)
                  refine lv_aload hx hb dX0_fill_144 (lv_at hl 0 rfl) ?_
                  refine lv_aload_n hx hb dX0_fill_146 rfl (lv_at hl 1 rfl) ?_
                  obtain ⟨i19, hi19⟩ := hW.o0 hk17_this
                  replace hr := nnS hr
                  obtain ⟨a147, hn147, hr⟩ := hr
                  have hk_a147 : c139_kd a147 = 11 := hT.1 4 _ _ hn147
                  refine va_get (D := (dC, dI)) (ci := 0) (v := .ref (ad139_17 a147)) (C := RX0) (T := TX0) (N := 6) hx hb hts inX0 hown hK hP i19 hi19 rfl 4 (by decide) (hts (.fieldLink RX0 32 "SpellTurner$Book" "spare" "LSpellTurner$WordRow;") ic_575) (fun _ h9 => h9) (congrArg (fun o => some (va_re ad139_17 o)) hn147) dX0_fill_147 ?_
                  replace hr := b3S hr
                  obtain ⟨c150_G203, c150_V0, c150_V1, hc150, hr⟩ := hr
                  have hFc := fr_all hD hS hA
                  obtain ⟨i20, hi20⟩ := hW.o10 hk17_d25_cnt
                  refine va_callv (va_runV (As := [.ref (ad139_17 a147)]) (rest := []) ⟨hx, hb, hml, hown, hts⟩ (m_X10_copy l dC dI kk ad139_17 H.size w17 c139_G c139_P c139_U c139_V c139_X c139_O c139_kd c139_ln c139_cnt d25_cnt a147 hk17_d25_cnt hk_a147 hW hT c150_G203 c150_V0 c150_V1 hc150) (cwV 1 hts gc_RX0_X10_copy_66 rfl rfl rfl (by decide +kernel) ⟨Nat.le_of_ble_eq_true rfl, Nat.le_of_ble_eq_true rfl⟩) ⟨fun a U g mk q => by obtain ⟨q0, q1, qP, qK, qD⟩ := q; exact ⟨q0, q1, qP, va_K.moved (u := U) (U := U.calling g mk a) (Vm.Alike.refl U.vm) qK, qD⟩, va_recv hK hP (ci := 10) (q0 := i20) rfl hi20, fun U hU hW => ⟨rfl, by rw [hU], by rw [hU]; exact hP, va_K.moved hW.alike hK, hD.weaken (fun _ _ _ _ => trivial)⟩⟩ rfl rfl hl.1 rfl (lv_room (Nat.le_of_ble_eq_true rfl)) dX0_fill_150 ⟨(by show _ ≤ uc; omega), (by show _ ≤ us; omega)⟩) hS (fun q _ h => hFc q h) hFc (fun w21 t H1 locs ht hvm hw hB hz1 hk1 hS => ?_)
                  obtain ⟨hW, hT⟩ := hw
                  obtain ⟨hP1, hK1, hD1⟩ := hB
                  rw [ht] at hP1
                  obtain ⟨hP, hD⟩ := jn_all (w1 := w21) hFc hP1 hD1
                  replace hP : va_P (dC, dI) vwCl w21 H1 := hP
                  replace hD : va_D A w21 := hD
                  clear hFc hP1 hK1 hD1 hk1 hz1 ht hvm
                  generalize H1 = H at hP hS ⊢
                  refine lv_aload_n hx hb dX0_fill_153 rfl (lv_at hl 1 rfl) ?_
                  obtain ⟨i22, hi22⟩ := hW.o0 hk17_this
                  replace hr := nnS hr
                  obtain ⟨a154, hn154, hr⟩ := hr
                  have hk_a154 : c139_kd a154 = 301 := hT.1 1 _ _ hn154
                  refine va_get (D := (dC, dI)) (ci := 0) (v := .ref (ad139_17 a154)) (C := RX0) (T := TX0) (N := 6) hx hb hts inX0 hown hK hP i22 hi22 rfl 1 (by decide) (hts (.fieldLink RX0 20 "SpellTurner$Book" "forms" "[LSpellTurner$WordRow;") ic_75) (fun _ h9 => h9) (congrArg (fun o => some (va_re ad139_17 o)) hn154) dX0_fill_154 ?_
                  refine lv_iload hx hb dX0_fill_157 (lv_at hl 5 rfl) ?_
                  refine lv_bipush (v := 100) hx hb dX0_fill_159 (by decide +kernel) ?_
                  refine lv_imul hx hb dX0_fill_161 ?_
                  refine lv_iload hx hb dX0_fill_162 (lv_at hl 6 rfl) ?_
                  refine lv_iadd hx hb dX0_fill_164 ?_
                  refine lv_aload hx hb dX0_fill_165 (lv_at hl 0 rfl) ?_
                  obtain ⟨i23, hi23⟩ := hW.q1 hk_a154
                  obtain ⟨i24, hi24⟩ := hW.o10 hk17_d25_cnt
                  replace hr := iteS hr
                  obtain ⟨hi167, hr⟩ := hr
                  refine va_astq (f := fun i => (((c139_O 1) a154) i).map ad139_17) hx hb hK hP hD hS i23 5 i24 10 hi23 rfl hi24 rfl (inbV hi167) dX0_fill_167 (fun H locs hP2 hD2 hS => ?_)
                  obtain ⟨m167, w25, em167, hP, hD, hW⟩ : ∃ (z : Nat → Nat → Option Nat) (w : va_W), z = (va_up (c139_O 1) a154 (va_up ((c139_O 1) a154) (Int32.toNatClampNeg ((y3_4 * 100) + y25_5)) (some d25_cnt))) ∧ va_P (dC, dI) vwCl w H ∧ va_D A w ∧ LW w ad139_17 kk c139_kd c139_ln (va_up c139_G 203 c150_G203) c139_P c139_U (va_up (va_up c139_V 0 c150_V0) 1 c150_V1) c139_X (va_up c139_O 1 z) := ⟨_, _, rfl, hP2, hD2, hW.setO hD hi23 (by rw [hk_a154]; decide) 1 (va_up ((c139_O 1) a154) (Int32.toNatClampNeg ((y3_4 * 100) + y25_5)) (some d25_cnt)) (by rw [hk_a154]; exact congrArg (fun h => (.inl (kk 5, c139_ln a154, .inr (.inr (.inr (.inr h)))) : va_E)) up_map)⟩
                  replace hT : TYP c139_kd c139_P (va_up c139_O 1 m167) c150_V0 c139_cnt := by rw [em167]; exact hT.setO 1 a154 _ d25_cnt hk17_d25_cnt
                  replace hr := vlS hr m167 em167
                  clear em167
                  refine lv_iinc (v := (y25_5 + 1)) (lv' := [(5, .int (y25_5 + 1)), (6, .ref (ad139_17 d25_cnt)), (0, .ref (ad139_17 this)), (1, .int p0), (2, .ref (ad139_17 p1)), (3, .ref (ad139_17 p2)), (4, .int y3_4)]) hx hb dX0_fill_168 hl (k := 6) rfl rfl (by decide) rfl (fun ls hl => ?_)
                  refine lv_goto (tgt := 25) hx hb dX0_fill_171 (by decide) ?_
                  exact ih25 (y25_5 + 1) (va_up c139_G 203 c150_G203) c139_P c139_U (va_up (va_up c139_V 0 c150_V0) 1 c150_V1) c139_X (va_up c139_O 1 m167) c139_kd c139_ln c139_cnt ad139_17 w25 H _ ls ccn18 csn18 _ _ hr hu1 hu2 hE hW hT hP hD hS (lv_sub hl [2, 3, 4, 5, 6, 0] rfl) hk17_this hk17_p1 hk17_p2
                refine lv_if_ne (tgt := 87) hx hb dX0_fill_47 (by decide) (fun c47 => ?_) (fun c47 => ?_)
                · replace hr := iteF c47 hr
                  refine lv_aload_n hx hb dX0_fill_87 rfl (lv_at hl 0 rfl) ?_
                  obtain ⟨i26, hi26⟩ := hW.o0 hk_thisn3n25
                  replace hr := nnS hr
                  obtain ⟨a88, hn88, hr⟩ := hr
                  have hk_a88 : d25_kd a88 = 201 := hT.1 2 _ _ hn88
                  refine va_get (D := (dC, dI)) (ci := 0) (v := .ref (ad25 a88)) (C := RX0) (T := TX0) (N := 6) hx hb hts inX0 hown hK hP i26 hi26 rfl 2 (by decide) (hts (.fieldLink RX0 24 "SpellTurner$Book" "lawsUsed" "[J") ic_95) (fun _ h9 => h9) (congrArg (fun o => some (va_re ad25 o)) hn88) dX0_fill_88 ?_
                  refine lv_iload hx hb dX0_fill_91 (lv_at hl 4 rfl) ?_
                  refine lv_iconst (v := 1) hx hb dX0_fill_93 (by decide +kernel) ?_
                  refine lv_isub hx hb dX0_fill_94 ?_
                  refine lv_bipush (v := 100) hx hb dX0_fill_95 (by decide +kernel) ?_
                  refine lv_imul hx hb dX0_fill_97 ?_
                  refine lv_iload hx hb dX0_fill_98 (lv_at hl 5 rfl) ?_
                  refine lv_iadd hx hb dX0_fill_100 ?_
                  refine lv_aload_n hx hb dX0_fill_101 rfl (lv_at hl 3 rfl) ?_
                  refine lv_aload_n hx hb dX0_fill_102 rfl (lv_at hl 2 rfl) ?_
                  refine lv_iload hx hb dX0_fill_103 (lv_at hl 4 rfl) ?_
                  refine lv_iconst (v := 1) hx hb dX0_fill_105 (by decide +kernel) ?_
                  refine lv_isub hx hb dX0_fill_106 ?_
                  obtain ⟨i27, hi27⟩ := hW.q2 hk_p1n3n25
                  replace hr := iteS hr
                  obtain ⟨hi107, hr⟩ := hr
                  refine va_aldq (C := RX5) (f := fun i => ((d25_O 2) p1 i).map ad25) hx hb hK hP i27 6 hi27 rfl (inbV hi107) dX0_fill_107 ?_
                  refine lv_tope (ad := ad25) (o := ((d25_O 2) p1 (Int32.toNatClampNeg (y3_4 - 1)))) (fun o107 eo107 => ?_)
                  have hk_o107 : ∀ b, o107 = some b → d25_kd b = 6 := fun b hq => hT.2.1 2 _ _ b (eo107.symm.trans hq)
                  replace hr := vlS hr o107 eo107
                  clear eo107
                  refine lv_aload_n hx hb dX0_fill_108 rfl (lv_at hl 0 rfl) ?_
                  refine lv_iload hx hb dX0_fill_109 (lv_at hl 4 rfl) ?_
                  refine lv_iconst (v := 1) hx hb dX0_fill_111 (by decide +kernel) ?_
                  refine lv_isub hx hb dX0_fill_112 ?_
                  refine lv_iload hx hb dX0_fill_113 (lv_at hl 5 rfl) ?_
                  replace hr := b1S hr
                  obtain ⟨r115, hc115, hr⟩ := hr
                  have hFc := fr_all hD hS hA
                  obtain ⟨i28, hi28⟩ := hW.o0 hk_thisn3n25
                  refine va_calle (va_runV (As := [.int (y3_4 - 1), .int y25_5]) (rest := [va_re ad25 o107, .ref (ad25 p2), .int (((y3_4 - 1) * 100) + y25_5), .ref (ad25 a88)]) ⟨hx, hb, hml, hown, hts⟩ (m_X0_formsAt l dC dI kk ad25 H.size w12 (va_up d25_G 203 m42) d25_P d25_U d25_V d25_X d25_O d25_kd d25_ln d25_cnt this (y3_4 - 1) y25_5 hk_thisn3n25 hW hT r115 hc115) (cwV 2 hts gc_RX0_X0_formsAt_56 rfl rfl rfl (by decide +kernel) ⟨Nat.le_of_ble_eq_true rfl, Nat.le_of_ble_eq_true rfl⟩) ⟨fun a U g mk q => by obtain ⟨q0, q1, qP, qK, qD⟩ := q; exact ⟨q0, q1, qP, va_K.moved (u := U) (U := U.calling g mk a) (Vm.Alike.refl U.vm) qK, qD⟩, va_recv hK hP (ci := 0) (q0 := i28) rfl hi28, fun U hU hW => ⟨rfl, by rw [hU], by rw [hU]; exact hP, va_K.moved hW.alike hK, hD.weaken (fun _ _ _ _ => trivial)⟩⟩ rfl rfl hl.1 rfl (lv_room (by simp only [List.map_cons, List.map_nil, re_cat]; exact Nat.le_of_ble_eq_true rfl)) dX0_fill_115 ⟨(by show _ ≤ uc; omega), (by show _ ≤ us; omega)⟩) hS (fun q _ h => hFc q h) hFc (fun qo115 w29 t H1 locs ht hvm hw hB hz1 hk1 hS => ?_)
                  obtain ⟨hw0, hW, hT, hkr115⟩ := hw
                  subst hw0
                  obtain ⟨hP1, hK1, hD1⟩ := hB
                  rw [ht] at hP1
                  obtain ⟨hP, hD⟩ := jn_all (w1 := w29) hFc hP1 hD1
                  replace hP : va_P (dC, dI) vwCl w29 H1 := hP
                  replace hD : va_D A w29 := hD
                  clear hFc hP1 hK1 hD1 hk1 hz1 ht hvm
                  generalize H1 = H at hP hS ⊢
                  refine lv_aload_n hx hb dX0_fill_118 rfl (lv_at hl 0 rfl) ?_
                  obtain ⟨i30, hi30⟩ := hW.o0 hk_thisn3n25
                  replace hr := nnS hr
                  obtain ⟨a119, hn119, hr⟩ := hr
                  have hk_a119 : d25_kd a119 = 11 := hT.1 4 _ _ hn119
                  refine va_get (D := (dC, dI)) (ci := 0) (v := .ref (ad25 a119)) (C := RX0) (T := TX0) (N := 6) hx hb hts inX0 hown hK hP i30 hi30 rfl 4 (by decide) (hts (.fieldLink RX0 32 "SpellTurner$Book" "spare" "LSpellTurner$WordRow;") ic_575) (fun _ h9 => h9) (congrArg (fun o => some (va_re ad25 o)) hn119) dX0_fill_119 ?_
                  replace hr := b12S hr
                  obtain ⟨r122z, c122_G60, c122_G183, c122_G203, c122_P66, c122_P181, c122_P182, c122_U184, c122_V0, c122_V1, c122_V2, c122_V12, hc122, hr⟩ := hr
                  have hFc := fr_all hD hS hA
                  obtain ⟨i31, hi31⟩ := hW.o9 hk_p2n3n25
                  refine va_calll (va_runV (As := [va_re ad25 o107, .ref (ad25 r115), .ref (ad25 a119)]) (rest := [.int (((y3_4 - 1) * 100) + y25_5), .ref (ad25 a88)]) ⟨hx, hb, hml, hown, hts⟩ (m_X9_turnForms l dC dI kk ad25 H.size w29 (va_up d25_G 203 m42) d25_P d25_U d25_V d25_X d25_O d25_kd d25_ln d25_cnt p2 o107 r115 a119 hk_p2n3n25 hk_o107 hkr115 hk_a119 hW hT r122z c122_G60 c122_G183 c122_G203 c122_P66 c122_P181 c122_P182 c122_U184 c122_V0 c122_V1 c122_V2 c122_V12 hc122) (cwV 3 hts gc_RX0_X9_turnForms_60 rfl rfl rfl (by decide +kernel) ⟨Nat.le_of_ble_eq_true rfl, Nat.le_of_ble_eq_true rfl⟩) ⟨fun a U g mk q => by obtain ⟨q0, q1, qP, qK, qD⟩ := q; exact ⟨q0, q1, qP, va_K.moved (u := U) (U := U.calling g mk a) (Vm.Alike.refl U.vm) qK, qD⟩, va_recv hK hP (ci := 9) (q0 := i31) rfl hi31, fun U hU hW => ⟨rfl, by rw [hU], by rw [hU]; exact hP, va_K.moved hW.alike hK, hD.weaken (fun _ _ _ _ => trivial)⟩⟩ rfl rfl hl.1 rfl (lv_room (Nat.le_of_ble_eq_true rfl)) dX0_fill_122 ⟨(by show _ ≤ uc; omega), (by show _ ≤ us; omega)⟩) hS (fun q _ h => hFc q h) hFc (fun r122 w32 t H1 locs ht hvm hw hB hz1 hk1 hS => ?_)
                  obtain ⟨hw0, hW, hT⟩ := hw
                  replace hw0 : r122 = r122z := hw0
                  subst hw0
                  obtain ⟨hP1, hK1, hD1⟩ := hB
                  rw [ht] at hP1
                  obtain ⟨hP, hD⟩ := jn_all (w1 := w32) hFc hP1 hD1
                  replace hP : va_P (dC, dI) vwCl w32 H1 := hP
                  replace hD : va_D A w32 := hD
                  clear hFc hP1 hK1 hD1 hk1 hz1 ht hvm
                  generalize H1 = H at hP hS ⊢
                  obtain ⟨i33, hi33⟩ := hW.x1 hk_a88
                  replace hr := iteS hr
                  obtain ⟨hi125, hr⟩ := hr
                  refine va_last (f := ((d25_X 1) a88)) hx hb hK hP hD hS i33 3 hi33 rfl (inbV hi125) dX0_fill_125 (fun H locs hP2 hD2 hS => ?_)
                  obtain ⟨m125, w34, em125, hP, hD, hW⟩ : ∃ (z : Nat → Nat → Int64) (w : va_W), z = (va_up (d25_X 1) a88 (vp_updL ((d25_X 1) a88) (Int32.toNatClampNeg (((y3_4 - 1) * 100) + y25_5)) r122)) ∧ va_P (dC, dI) vwCl w H ∧ va_D A w ∧ LW w ad25 kk d25_kd d25_ln (va_up (va_up (va_up (va_up d25_G 203 m42) 60 c122_G60) 183 c122_G183) 203 c122_G203) (va_up (va_up (va_up d25_P 66 c122_P66) 181 c122_P181) 182 c122_P182) (va_up d25_U 184 c122_U184) (va_up (va_up (va_up (va_up d25_V 0 c122_V0) 1 c122_V1) 2 c122_V2) 12 c122_V12) (va_up d25_X 1 z) d25_O := ⟨_, _, rfl, hP2, hD2, hW.setX hD hi33 (by rw [hk_a88]; decide) 1 (vp_updL ((d25_X 1) a88) (Int32.toNatClampNeg (((y3_4 - 1) * 100) + y25_5)) r122) (by rw [hk_a88]; rfl)⟩
                  replace hr := vlS hr m125 em125
                  clear em125
                  have eG : (va_up (va_up (va_up (va_up d25_G 203 m42) 60 c122_G60) 183 c122_G183) 203 c122_G203) = (va_up (va_up (va_up d25_G 60 c122_G60) 183 c122_G183) 203 c122_G203) := by
                    funext k
                    by_cases h60 : k = 60
                    · subst h60; rfl
                    by_cases h183 : k = 183
                    · subst h183; rfl
                    by_cases h203 : k = 203
                    · subst h203; rfl
                    · simp only [va_up, h60, h183, h203, if_false]
                  rw [eG] at hW
                  clear eG
                  exact Jj126 c122_G60 c122_G183 c122_G203 c122_P66 c122_P181 c122_P182 c122_U184 c122_V0 c122_V1 c122_V2 c122_V12 m125 ad25 w34 H _ ls cc cs _ _ hr hu1 hu2 hE hW hT hP hD hS (lv_sub hl [0, 1, 2, 3, 4, 5] rfl)
                · replace hr := iteT c47 hr
                  refine lv_aload_n hx hb dX0_fill_50 rfl (lv_at hl 0 rfl) ?_
                  obtain ⟨i35, hi35⟩ := hW.o0 hk_thisn3n25
                  replace hr := nnS hr
                  obtain ⟨a51, hn51, hr⟩ := hr
                  have hk_a51 : d25_kd a51 = 11 := hT.1 4 _ _ hn51
                  refine va_get (D := (dC, dI)) (ci := 0) (v := .ref (ad25 a51)) (C := RX0) (T := TX0) (N := 6) hx hb hts inX0 hown hK hP i35 hi35 rfl 4 (by decide) (hts (.fieldLink RX0 32 "SpellTurner$Book" "spare" "LSpellTurner$WordRow;") ic_575) (fun _ h9 => h9) (congrArg (fun o => some (va_re ad25 o)) hn51) dX0_fill_51 ?_
                  refine lv_aload_n hx hb dX0_fill_54 rfl (lv_at hl 0 rfl) ?_
                  obtain ⟨i36, hi36⟩ := hW.o0 hk_thisn3n25
                  replace hr := nnS hr
                  obtain ⟨a55, hn55, hr⟩ := hr
                  have hk_a55 : d25_kd a55 = 11 := hT.1 0 _ _ hn55
                  refine va_get (D := (dC, dI)) (ci := 0) (v := .ref (ad25 a55)) (C := RX0) (T := TX0) (N := 6) hx hb hts inX0 hown hK hP i36 hi36 rfl 0 (by decide) (hts (.fieldLink RX0 14 "SpellTurner$Book" "words" "LSpellTurner$WordRow;") ic_92) (fun _ h9 => h9) (congrArg (fun o => some (va_re ad25 o)) hn55) dX0_fill_55 ?_
                  obtain ⟨i37, hi37⟩ := hW.o10 hk_a55
                  replace hr := nnS hr
                  obtain ⟨a58, hn58, hr⟩ := hr
                  have hk_a58 : d25_kd a58 = 100 := hT.1 201 _ _ hn58
                  refine va_get (D := (dC, dI)) (ci := 10) (v := .ref (ad25 a58)) (C := RX10) (T := TX10) (N := 4) hx hb hts inX10 hown hK hP i37 hi37 rfl 1 (by decide) (hts (.fieldLink RX0 42 "SpellTurner$WordRow" "letters" "[B") ic_83) (fun _ h9 => h9) (congrArg (fun o => some (va_re ad25 o)) hn58) dX0_fill_58 ?_
                  refine lv_iload hx hb dX0_fill_61 (lv_at hl 5 rfl) ?_
                  refine lv_aload_n hx hb dX0_fill_63 rfl (lv_at hl 0 rfl) ?_
                  obtain ⟨i38, hi38⟩ := hW.o0 hk_thisn3n25
                  replace hr := nnS hr
                  obtain ⟨a64, hn64, hr⟩ := hr
                  have hk_a64 : d25_kd a64 = 11 := hT.1 0 _ _ hn64
                  refine va_get (D := (dC, dI)) (ci := 0) (v := .ref (ad25 a64)) (C := RX0) (T := TX0) (N := 6) hx hb hts inX0 hown hK hP i38 hi38 rfl 0 (by decide) (hts (.fieldLink RX0 14 "SpellTurner$Book" "words" "LSpellTurner$WordRow;") ic_92) (fun _ h9 => h9) (congrArg (fun o => some (va_re ad25 o)) hn64) dX0_fill_64 ?_
                  obtain ⟨i39, hi39⟩ := hW.o10 hk_a64
                  refine va_get (D := (dC, dI)) (ci := 10) (v := .int ((d25_G 200) a64)) (C := RX10) (T := TX10) (N := 4) hx hb hts inX10 hown hK hP i39 hi39 rfl 0 (by decide) (hts (.fieldLink RX0 46 "SpellTurner$WordRow" "width" "I") ic_84) (fun _ h9 => h9) rfl dX0_fill_67 ?_
                  refine lv_imul hx hb dX0_fill_70 ?_
                  refine lv_aload_n hx hb dX0_fill_71 rfl (lv_at hl 0 rfl) ?_
                  obtain ⟨i40, hi40⟩ := hW.o0 hk_thisn3n25
                  replace hr := nnS hr
                  obtain ⟨a72, hn72, hr⟩ := hr
                  have hk_a72 : d25_kd a72 = 11 := hT.1 0 _ _ hn72
                  refine va_get (D := (dC, dI)) (ci := 0) (v := .ref (ad25 a72)) (C := RX0) (T := TX0) (N := 6) hx hb hts inX0 hown hK hP i40 hi40 rfl 0 (by decide) (hts (.fieldLink RX0 14 "SpellTurner$Book" "words" "LSpellTurner$WordRow;") ic_92) (fun _ h9 => h9) (congrArg (fun o => some (va_re ad25 o)) hn72) dX0_fill_72 ?_
                  obtain ⟨i41, hi41⟩ := hW.o10 hk_a72
                  replace hr := nnS hr
                  obtain ⟨a75, hn75, hr⟩ := hr
                  have hk_a75 : d25_kd a75 = 101 := hT.1 202 _ _ hn75
                  refine va_get (D := (dC, dI)) (ci := 10) (v := .ref (ad25 a75)) (C := RX10) (T := TX10) (N := 4) hx hb hts inX10 hown hK hP i41 hi41 rfl 2 (by decide) (hts (.fieldLink RX0 49 "SpellTurner$WordRow" "lengths" "[I") ic_85) (fun _ h9 => h9) (congrArg (fun o => some (va_re ad25 o)) hn75) dX0_fill_75 ?_
                  refine lv_iload hx hb dX0_fill_78 (lv_at hl 5 rfl) ?_
                  obtain ⟨i42, hi42⟩ := hW.v1 hk_a75
                  replace hr := iteS hr
                  obtain ⟨hi80, hr⟩ := hr
                  refine va_iald (f := ((d25_V 1) a75)) hx hb hK hP i42 1 hi42 rfl (inbV hi80) dX0_fill_80 ?_
                  replace hr := b3S hr
                  obtain ⟨c81_G203, c81_V0, c81_V1, hc81, hr⟩ := hr
                  have hFc := fr_all hD hS hA
                  obtain ⟨i43, hi43⟩ := hW.o10 hk_a51
                  refine va_callv (va_runV (As := [.ref (ad25 a58), .int (y25_5 * ((d25_G 200) a64)), .int (((d25_V 1) a75) (Int32.toNatClampNeg y25_5))]) (rest := []) ⟨hx, hb, hml, hown, hts⟩ (m_X10_add l dC dI kk ad25 H.size w12 (va_up d25_G 203 m42) d25_P d25_U d25_V d25_X d25_O d25_kd d25_ln d25_cnt a51 a58 (y25_5 * ((d25_G 200) a64)) (((d25_V 1) a75) (Int32.toNatClampNeg y25_5)) hk_a51 hk_a58 hW hT c81_G203 c81_V0 c81_V1 hc81) (cwV 3 hts gc_RX0_X10_add_52 rfl rfl rfl (by decide +kernel) ⟨Nat.le_of_ble_eq_true rfl, Nat.le_of_ble_eq_true rfl⟩) ⟨fun a U g mk q => by obtain ⟨q0, q1, qP, qK, qD⟩ := q; exact ⟨q0, q1, qP, va_K.moved (u := U) (U := U.calling g mk a) (Vm.Alike.refl U.vm) qK, qD⟩, va_recv hK hP (ci := 10) (q0 := i43) rfl hi43, fun U hU hW => ⟨rfl, by rw [hU], by rw [hU]; exact hP, va_K.moved hW.alike hK, hD.weaken (fun _ _ _ _ => trivial)⟩⟩ rfl rfl hl.1 rfl (lv_room (Nat.le_of_ble_eq_true rfl)) dX0_fill_81 ⟨(by show _ ≤ uc; omega), (by show _ ≤ us; omega)⟩) hS (fun q _ h => hFc q h) hFc (fun w44 t H1 locs ht hvm hw hB hz1 hk1 hS => ?_)
                  obtain ⟨hW, hT⟩ := hw
                  obtain ⟨hP1, hK1, hD1⟩ := hB
                  rw [ht] at hP1
                  obtain ⟨hP, hD⟩ := jn_all (w1 := w44) hFc hP1 hD1
                  replace hP : va_P (dC, dI) vwCl w44 H1 := hP
                  replace hD : va_D A w44 := hD
                  clear hFc hP1 hK1 hD1 hk1 hz1 ht hvm
                  generalize H1 = H at hP hS ⊢
                  refine lv_goto (tgt := 126) hx hb dX0_fill_84 (by decide) ?_
                  have eG : (va_up (va_up d25_G 203 m42) 203 c81_G203) = (va_up (va_up (va_up d25_G 60 (d25_G 60)) 183 (d25_G 183)) 203 c81_G203) := by
                    funext k
                    by_cases h60 : k = 60
                    · subst h60; rfl
                    by_cases h183 : k = 183
                    · subst h183; rfl
                    by_cases h203 : k = 203
                    · subst h203; rfl
                    · simp only [va_up, h60, h183, h203, if_false]
                  rw [eG] at hW
                  clear eG
                  have eP : d25_P = (va_up (va_up (va_up d25_P 66 (d25_P 66)) 181 (d25_P 181)) 182 (d25_P 182)) := by
                    funext k
                    by_cases h66 : k = 66
                    · subst h66; rfl
                    by_cases h181 : k = 181
                    · subst h181; rfl
                    by_cases h182 : k = 182
                    · subst h182; rfl
                    · simp only [va_up, h66, h181, h182, if_false]
                  rw [eP] at hW
                  rw [eP] at hT
                  clear eP
                  have eU : d25_U = (va_up d25_U 184 (d25_U 184)) := by
                    funext k
                    by_cases h184 : k = 184
                    · subst h184; rfl
                    · simp only [va_up, h184, if_false]
                  rw [eU] at hW
                  clear eU
                  have eV : (va_up (va_up d25_V 0 c81_V0) 1 c81_V1) = (va_up (va_up (va_up (va_up d25_V 0 c81_V0) 1 c81_V1) 2 (d25_V 2)) 12 (d25_V 12)) := by
                    funext k
                    by_cases h0 : k = 0
                    · subst h0; rfl
                    by_cases h1 : k = 1
                    · subst h1; rfl
                    by_cases h2 : k = 2
                    · subst h2; rfl
                    by_cases h12 : k = 12
                    · subst h12; rfl
                    · simp only [va_up, h0, h1, h2, h12, if_false]
                  rw [eV] at hW
                  clear eV
                  have eX : d25_X = (va_up d25_X 1 (d25_X 1)) := by
                    funext k
                    by_cases h1 : k = 1
                    · subst h1; rfl
                    · simp only [va_up, h1, if_false]
                  rw [eX] at hW
                  clear eX
                  exact Jj126 (d25_G 60) (d25_G 183) c81_G203 (d25_P 66) (d25_P 181) (d25_P 182) (d25_U 184) c81_V0 c81_V1 (d25_V 2) (d25_V 12) (d25_X 1) ad25 w44 H _ ls cc cs _ _ hr hu1 hu2 hE hW hT hP hD hS (lv_sub hl [0, 1, 2, 3, 4, 5] rfl)
          exact lp25 NN x23 d3_G d3_P d3_U d3_V d3_X d3_O d3_kd d3_ln d3_cnt ad3 ws H _ ls cc cs _ _ hr hu1 hu2 hE hW hT hP hD hS (lv_sub hl [1, 2, 3, 4, 5, 0] rfl) hk_thisn3 hk_p1n3 hk_p2n3
  exact lp3 NN 0 G P U V X O kd ln cnt ad ws H _ ls 0 0 _ _ hr hu1 hu2 hE hW hT hP hD hS (lv_sub hl [1, 2, 3, 4, 0] rfl) hk_this hk_p1 hk_p2
set_option maxHeartbeats 4000000 in
set_option maxRecDepth 100000 in
theorem m_X0_fill (l : Launch) (dC : Nat → ClassId) (dI : Nat → Nat → Nat) (kk : Nat → ClassId) (ad : Nat → Nat) (sz : Nat) (ws : va_W) (G : Nat → Nat → Int32) (P : Nat → Nat → Option Nat) (U : Nat → Nat → Int64) (V : Nat → Nat → Nat → Int32) (X : Nat → Nat → Nat → Int64) (O : Nat → Nat → Nat → Option Nat) (kd : Nat → Nat) (ln : Nat → Nat) (cnt : Nat) (this : Nat) (p0 : Int32) (p1 : Nat) (p2 : Nat) (hk_this : kd this = 1) (hk_p1 : kd p1 = 302) (hk_p2 : kd p2 = 10) (hW : LW ws ad kk kd ln G P U V X O) (hT : TYP kd P O (V 0) cnt) (c_G : Nat → Nat → Int32) (c_P : Nat → Nat → Option Nat) (c_U : Nat → Nat → Int64) (c_V : Nat → Nat → Nat → Int32) (c_X : Nat → Nat → Nat → Int64) (c_O : Nat → Nat → Nat → Option Nat) (c_kd : Nat → Nat) (c_ln : Nat → Nat) (c_cnt : Nat) (uc us : Nat) (hr : f_X0_fill G P U V X O kd ln cnt this p0 p1 p2 = some ((c_G, c_P, c_U, c_V, c_X, c_O, c_kd, c_ln, c_cnt), uc, us)) : Met l yX0_fill vmX0_fill ({ frames := 48, cells := uc, slots := us, locals := 1247 } : Room) (va_Pc [.ref (ad this), .int p0, .ref (ad p1), .ref (ad p2)] (fun U => U.heap.size = sz ∧ va_P (dC, dI) vwCl ws U.heap ∧ va_K (dC, dI) vwCl (cT kk) U ∧ va_D (fun _ => True) ws)) (va_Qv (fun (x : (va_W × (Nat → Nat))) => LW x.1 x.2 kk c_kd c_ln c_G c_P c_U c_V c_X c_O ∧ TYP c_kd c_P c_O (c_V 0) c_cnt ∧ adEx kd ad c_kd x.2) (fun x t => va_P (dC, dI) vwCl x.1 t.heap ∧ va_K (dC, dI) vwCl (cT kk) t ∧ va_D (va_A ws sz) x.1) (va_A ws sz)) uc us (va_A ws sz) := by
  refine Met.ofW (cc := cX0_fill) (maxL := 7) (ret := none) (by decide) rfl ?_
  intro p e s m args below meth c s₁ B hml hv
  obtain ⟨rfl, hsz, hP, hK, hD0⟩ := hv
  have hx := B.exec
  have hb := B.bytes
  have hrt := B.returns
  have hts := atoms_spec (ws := vmX0_fill) B.pre
  have hown : s.vm.findClass RX0 = some m.cls := findClass_of_methodNamed B.named
  subst hsz
  have hD := hD0.self (sz := s.heap.size)
  generalize hAe : va_A ws s.heap.size = A at hD ⊢
  have hA : ∀ q : Nat, s.heap.size ≤ q → A q := fun q h => by rw [← hAe]; exact Or.inr h
  have hS : va_S A s.heap s.heap [] := va_S.rf
  have hl := lv_entry ([.ref (ad this), .int p0, .ref (ad p1), .ref (ad p2)]) (n := 7) (Nat.le_of_ble_eq_true rfl)
  rw [lg_entry_eq]
  generalize (lg_sl ([.ref (ad this), .int p0, .ref (ad p1), .ref (ad p2)]) ++ List.replicate (7 - (lg_sl ([.ref (ad this), .int p0, .ref (ad p1), .ref (ad p2)])).length) Slot.unset).toArray = ls at hl ⊢
  exact bm_X0_fill this p0 p1 p2 hk_this hk_p1 hk_p2 c_G c_P c_U c_V c_X c_O c_kd c_ln c_cnt uc us hr hx hb hml hown hts hA hK hW hT hP hD hS hl (fun pc ls c_Gz c_Pz c_Uz c_Vz c_Xz c_Oz c_kdz c_lnz c_cntz adz ws H locs he hd hE hW hT hP hD hS => by cases he; exact W.vret hx hb hrt (fun t ht hW9 => ⟨⟨(ws, adz), rfl, ⟨hW, hT, hE⟩, by rw [ht]; exact hP, va_K.moved hW9.alike hK, hD⟩, hS.F ht⟩) hS.2.2 hd)
set_option maxHeartbeats 4000000 in
set_option maxRecDepth 100000 in
theorem bm_X11_back {p : Program} {l : Launch} {e : Env} {s : State} {m : MethodId} {args : Array Value} {below : List Frame} {meth : Method} {c : Code} {Q : State → Prop} {A : Nat → Prop} {dC : Nat → ClassId} {dI : Nat → Nat → Nat} {kk : Nat → ClassId} {ad : Nat → Nat} {ws : va_W} {G : Nat → Nat → Int32} {P : Nat → Nat → Option Nat} {U : Nat → Nat → Int64} {V : Nat → Nat → Nat → Int32} {X : Nat → Nat → Nat → Int64} {O : Nat → Nat → Nat → Option Nat} {kd : Nat → Nat} {ln : Nat → Nat} {cnt : Nat} {H : Heap} {locs : List Loc} {ls : Array Slot} (this : Nat) (p0 : Int32) (hk_this : kd this = 12) (r : Int32) (c_G : Nat → Nat → Int32) (c_P : Nat → Nat → Option Nat) (c_U : Nat → Nat → Int64) (c_V : Nat → Nat → Nat → Int32) (c_X : Nat → Nat → Nat → Int64) (c_O : Nat → Nat → Nat → Option Nat) (c_kd : Nat → Nat) (c_ln : Nat → Nat) (c_cnt : Nat) (uc us : Nat) (hr : f_X11_back G P U V X O kd ln cnt this p0 = some ((r, c_G, c_P, c_U, c_V, c_X, c_O, c_kd, c_ln, c_cnt), uc, us)) (hx : p.tables.exec = Jvm.exec) (hb : c.code = cX11_back) (hml : c.maxLocals = 4) (hown : s.vm.findClass RX11 = some m.cls) (hts : ∀ w ∈ vmX11_back, w.before args s = true) (hA : ∀ q : Nat, s.heap.size ≤ q → A q) (hK : va_K (dC, dI) vwCl (cT kk) s) (hW : LW ws ad kk kd ln G P U V X O) (hT : TYP kd P O (V 0) cnt) (hP : va_P (dC, dI) vwCl ws H) (hD : va_D A ws) (hS : va_S A s.heap H locs) (hl : lv_has ls 4 [(0, .ref (ad this)), (1, .int p0)])
    (K : ∀ (pc : Nat) (ls : Array Slot) (rz : Int32) (c_Gz : Nat → Nat → Int32) (c_Pz : Nat → Nat → Option Nat) (c_Uz : Nat → Nat → Int64) (c_Vz : Nat → Nat → Nat → Int32) (c_Xz : Nat → Nat → Nat → Int64) (c_Oz : Nat → Nat → Nat → Option Nat) (c_kdz : Nat → Nat) (c_lnz : Nat → Nat) (c_cntz : Nat) (adz : Nat → Nat) (ws : va_W) (H : Heap) (locs : List Loc), some (rz, c_Gz, c_Pz, c_Uz, c_Vz, c_Xz, c_Oz, c_kdz, c_lnz, c_cntz) = some (r, c_G, c_P, c_U, c_V, c_X, c_O, c_kd, c_ln, c_cnt) → decode cX11_back pc = .ok (.ireturn, 1) → adEx kd ad c_kdz adz → LW ws adz kk c_kdz c_lnz c_Gz c_Pz c_Uz c_Vz c_Xz c_Oz → TYP c_kdz c_Pz c_Oz (c_Vz 0) c_cntz → va_P (dC, dI) vwCl ws H → va_D A ws → va_S A s.heap H locs → W p l e ({ frames := 49, cells := uc, slots := us, locals := 1273 } : Room) s m args below meth c H locs uc us Q (F0 m pc ls [.int rz])) : W p l e ({ frames := 49, cells := uc, slots := us, locals := 1273 } : Room) s m args below meth c H locs 0 0 Q (F0 m 0 ls []) := by
  have hu1 : 0 + uc = uc := Nat.zero_add _
  have hu2 : 0 + us = us := Nat.zero_add _
  have hE : adEx kd ad kd ad := ⟨fun _ _ => rfl, fun _ _ => rfl⟩
  unfold f_X11_back at hr
  refine lv_aload_n hx hb dX11_back_0 rfl (lv_at hl 0 rfl) ?_
  obtain ⟨i1, hi1⟩ := hW.o11 hk_this
  replace hr := nnS hr
  obtain ⟨a1, hn1, hr⟩ := hr
  have hk_a1 : kd a1 = 8 := hT.1 220 _ _ hn1
  refine va_get (D := (dC, dI)) (ci := 11) (v := .ref (ad a1)) (C := RX11) (T := TX11) (N := 17) hx hb hts inX11 hown hK hP i1 hi1 rfl 0 (by decide) (hts (.fieldLink RX11 12 "SpellTurner" "tape" "LSpellTurner$Tape;") ic_48) (fun _ h9 => h9) (congrArg (fun o => some (va_re ad o)) hn1) dX11_back_1 ?_
  replace hr := b2S hr
  obtain ⟨r4z, c4_G141, hc4, hr⟩ := hr
  have hFc := fr_all hD hS hA
  obtain ⟨i2, hi2⟩ := hW.o7 hk_a1
  refine va_calli (va_runV (As := []) (rest := []) ⟨hx, hb, hml, hown, hts⟩ (m_X7_take l dC dI kk ad H.size ws G P U V X O kd ln cnt a1 hk_a1 hW hT r4z c4_G141 hc4) (cwV 0 hts gc_RX11_X7_take_112 rfl rfl rfl (by decide +kernel) ⟨Nat.le_of_ble_eq_true rfl, Nat.le_of_ble_eq_true rfl⟩) ⟨fun a U g mk q => by obtain ⟨q0, q1, qP, qK, qD⟩ := q; exact ⟨q0, q1, qP, va_K.moved (u := U) (U := U.calling g mk a) (Vm.Alike.refl U.vm) qK, qD⟩, va_recv hK hP (ci := 7) (q0 := i2) rfl hi2, fun U hU hW => ⟨rfl, by rw [hU], by rw [hU]; exact hP, va_K.moved hW.alike hK, hD.weaken (fun _ _ _ _ => trivial)⟩⟩ rfl rfl hl.1 rfl (lv_room (Nat.le_of_ble_eq_true rfl)) dX11_back_4 ⟨(by show _ ≤ uc; omega), (by show _ ≤ us; omega)⟩) hS (fun q _ h => hFc q h) hFc (fun r4 w3 t H1 locs ht hvm hw hB hz1 hk1 hS => ?_)
  obtain ⟨hw0, hW, hT⟩ := hw
  replace hw0 : r4 = r4z := hw0
  subst hw0
  obtain ⟨hP1, hK1, hD1⟩ := hB
  rw [ht] at hP1
  obtain ⟨hP, hD⟩ := jn_all (w1 := w3) hFc hP1 hD1
  replace hP : va_P (dC, dI) vwCl w3 H1 := hP
  replace hD : va_D A w3 := hD
  clear hFc hP1 hK1 hD1 hk1 hz1 ht hvm
  generalize H1 = H at hP hS ⊢
  refine lv_istore_n (lv' := [(2, .int r4), (0, .ref (ad this)), (1, .int p0)]) hx hb dX11_back_7 rfl hl (by decide) rfl (fun ls hl => ?_)
  refine lv_aload_n hx hb dX11_back_8 rfl (lv_at hl 1 rfl) ?_
  refine lv_iload_n hx hb dX11_back_9 rfl (lv_at hl 2 rfl) ?_
  replace hr := b1S hr
  obtain ⟨r10z, hc10, hr⟩ := hr
  have hFc := fr_all hD hS hA
  obtain ⟨i4, hi4⟩ := hW.o11 hk_this
  refine va_calli (va_runV (As := [.int p0]) (rest := []) ⟨hx, hb, hml, hown, hts⟩ (m_X11_isStage l dC dI kk ad H.size w3 (va_up G 141 c4_G141) P U V X O kd ln cnt this p0 hk_this hW hT r10z hc10) (cwV 1 hts gc_RX11_X11_isStage_208 rfl rfl rfl (by decide +kernel) ⟨Nat.le_of_ble_eq_true rfl, Nat.le_of_ble_eq_true rfl⟩) ⟨fun a U g mk q => by obtain ⟨q0, q1, qP, qK, qD⟩ := q; exact ⟨q0, q1, qP, va_K.moved (u := U) (U := U.calling g mk a) (Vm.Alike.refl U.vm) qK, qD⟩, va_recv hK hP (ci := 11) (q0 := i4) rfl hi4, fun U hU hW => ⟨rfl, by rw [hU], by rw [hU]; exact hP, va_K.moved hW.alike hK, hD.weaken (fun _ _ _ _ => trivial)⟩⟩ rfl rfl hl.1 rfl (lv_room (Nat.le_of_ble_eq_true rfl)) dX11_back_10 ⟨(by show _ ≤ uc; omega), (by show _ ≤ us; omega)⟩) hS (fun q _ h => hFc q h) hFc (fun r10 w5 t H1 locs ht hvm hw hB hz1 hk1 hS => ?_)
  obtain ⟨hw0, hW, hT⟩ := hw
  replace hw0 : r10 = r10z := hw0
  subst hw0
  obtain ⟨hP1, hK1, hD1⟩ := hB
  rw [ht] at hP1
  obtain ⟨hP, hD⟩ := jn_all (w1 := w5) hFc hP1 hD1
  replace hP : va_P (dC, dI) vwCl w5 H1 := hP
  replace hD : va_D A w5 := hD
  clear hFc hP1 hK1 hD1 hk1 hz1 ht hvm
  generalize H1 = H at hP hS ⊢
  replace hr := jnS hr
  obtain ⟨j27, hj27, hr⟩ := hr
  have Jj27 : ∀ (ws : va_W) (H : Heap) (locs : List Loc) (ls : Array Slot) (cc cs u1 u2 : Nat), j27 () = some ((r, c_G, c_P, c_U, c_V, c_X, c_O, c_kd, c_ln, c_cnt), u1, u2) → cc + u1 = uc → cs + u2 = us → adEx kd ad kd ad → LW ws ad kk kd ln (va_up G 141 c4_G141) P U V X O → TYP kd P O (V 0) cnt → va_P (dC, dI) vwCl ws H → va_D A ws → va_S A s.heap H locs → lv_has ls 4 [] → W p l e ({ frames := 49, cells := uc, slots := us, locals := 1273 } : Room) s m args below meth c H locs cc cs Q (F0 m 27 ls []) := by
    intro ws H locs ls cc cs u1 u2 hr hu1 hu2 hE hW hT hP hD hS hl
    rw [hj27] at hr
    refine lv_bipush (v := (-2)) hx hb dX11_back_27 (by decide +kernel) ?_
    replace hr := retS hr
    obtain ⟨hr, hv1, hv2⟩ := hr
    refine W.widen (k := uc) (n := us) (by omega) (by omega) ?_
    exact K 29 ls _ _ _ _ _ _ _ _ _ _ ad ws H _ hr dX11_back_29 hE hW hT hP hD hS
  refine lv_if_eq (tgt := 27) hx hb dX11_back_13 (by decide) (fun c13 => ?_) (fun c13 => ?_)
  · replace hr := iteT c13 hr
    exact Jj27 w5 H _ ls 0 0 _ _ hr hu1 hu2 hE hW hT hP hD hS (lv_sub hl [] rfl)
  · replace hr := iteF c13 hr
    refine lv_aload_n hx hb dX11_back_16 rfl (lv_at hl 1 rfl) ?_
    obtain ⟨i6, hi6⟩ := hW.o11 hk_this
    replace hr := nnS hr
    obtain ⟨a17, hn17, hr⟩ := hr
    have hk_a17 : kd a17 = 8 := hT.1 220 _ _ hn17
    refine va_get (D := (dC, dI)) (ci := 11) (v := .ref (ad a17)) (C := RX11) (T := TX11) (N := 17) hx hb hts inX11 hown hK hP i6 hi6 rfl 0 (by decide) (hts (.fieldLink RX11 12 "SpellTurner" "tape" "LSpellTurner$Tape;") ic_48) (fun _ h9 => h9) (congrArg (fun o => some (va_re ad o)) hn17) dX11_back_17 ?_
    refine lv_iload_n hx hb dX11_back_20 rfl (lv_at hl 0 rfl) ?_
    replace hr := b1S hr
    obtain ⟨r21z, hc21, hr⟩ := hr
    have hFc := fr_all hD hS hA
    obtain ⟨i7, hi7⟩ := hW.o7 hk_a17
    refine va_calli (va_runV (As := [.int r4]) (rest := []) ⟨hx, hb, hml, hown, hts⟩ (m_X7_isWord l dC dI kk ad H.size w5 (va_up G 141 c4_G141) P U V X O kd ln cnt a17 r4 hk_a17 hW hT r21z hc21) (cwV 1 hts gc_RX11_X7_isWord_164 rfl rfl rfl (by decide +kernel) ⟨Nat.le_of_ble_eq_true rfl, Nat.le_of_ble_eq_true rfl⟩) ⟨fun a U g mk q => by obtain ⟨q0, q1, qP, qK, qD⟩ := q; exact ⟨q0, q1, qP, va_K.moved (u := U) (U := U.calling g mk a) (Vm.Alike.refl U.vm) qK, qD⟩, va_recv hK hP (ci := 7) (q0 := i7) rfl hi7, fun U hU hW => ⟨rfl, by rw [hU], by rw [hU]; exact hP, va_K.moved hW.alike hK, hD.weaken (fun _ _ _ _ => trivial)⟩⟩ rfl rfl hl.1 rfl (lv_room (Nat.le_of_ble_eq_true rfl)) dX11_back_21 ⟨(by show _ ≤ uc; omega), (by show _ ≤ us; omega)⟩) hS (fun q _ h => hFc q h) hFc (fun r21 w8 t H1 locs ht hvm hw hB hz1 hk1 hS => ?_)
    obtain ⟨hw0, hW, hT⟩ := hw
    replace hw0 : r21 = r21z := hw0
    subst hw0
    obtain ⟨hP1, hK1, hD1⟩ := hB
    rw [ht] at hP1
    obtain ⟨hP, hD⟩ := jn_all (w1 := w8) hFc hP1 hD1
    replace hP : va_P (dC, dI) vwCl w8 H1 := hP
    replace hD : va_D A w8 := hD
    clear hFc hP1 hK1 hD1 hk1 hz1 ht hvm
    generalize H1 = H at hP hS ⊢
    refine lv_if_ne (tgt := 30) hx hb dX11_back_24 (by decide) (fun c24 => ?_) (fun c24 => ?_)
    · replace hr := iteF c24 hr
      refine lv_aload_n hx hb dX11_back_30 rfl (lv_at hl 1 rfl) ?_
      obtain ⟨i9, hi9⟩ := hW.o11 hk_this
      replace hr := nnS hr
      obtain ⟨a31, hn31, hr⟩ := hr
      have hk_a31 : kd a31 = 1 := hT.1 229 _ _ hn31
      refine va_get (D := (dC, dI)) (ci := 11) (v := .ref (ad a31)) (C := RX11) (T := TX11) (N := 17) hx hb hts inX11 hown hK hP i9 hi9 rfl 9 (by decide) (hts (.fieldLink RX11 67 "SpellTurner" "book" "LSpellTurner$Book;") ic_106) (fun _ h9 => h9) (congrArg (fun o => some (va_re ad o)) hn31) dX11_back_31 ?_
      refine lv_iload_n hx hb dX11_back_34 rfl (lv_at hl 2 rfl) ?_
      refine lv_aload_n hx hb dX11_back_35 rfl (lv_at hl 1 rfl) ?_
      obtain ⟨i10, hi10⟩ := hW.o11 hk_this
      replace hr := nnS hr
      obtain ⟨a36, hn36, hr⟩ := hr
      have hk_a36 : kd a36 = 302 := hT.1 221 _ _ hn36
      refine va_get (D := (dC, dI)) (ci := 11) (v := .ref (ad a36)) (C := RX11) (T := TX11) (N := 17) hx hb hts inX11 hown hK hP i10 hi10 rfl 1 (by decide) (hts (.fieldLink RX11 18 "SpellTurner" "reforms" "[LSpellTurner$Reform;") ic_56) (fun _ h9 => h9) (congrArg (fun o => some (va_re ad o)) hn36) dX11_back_36 ?_
      refine lv_aload_n hx hb dX11_back_39 rfl (lv_at hl 1 rfl) ?_
      obtain ⟨i11, hi11⟩ := hW.o11 hk_this
      replace hr := nnS hr
      obtain ⟨a40, hn40, hr⟩ := hr
      have hk_a40 : kd a40 = 10 := hT.1 226 _ _ hn40
      refine va_get (D := (dC, dI)) (ci := 11) (v := .ref (ad a40)) (C := RX11) (T := TX11) (N := 17) hx hb hts inX11 hown hK hP i11 hi11 rfl 6 (by decide) (hts (.fieldLink RX11 44 "SpellTurner" "turner" "LSpellTurner$Turner;") ic_340) (fun _ h9 => h9) (congrArg (fun o => some (va_re ad o)) hn40) dX11_back_40 ?_
      replace hr := bA9S hr
      obtain ⟨c43_G, c43_P, c43_U, c43_V, c43_X, c43_O, c43_kd, c43_ln, c43_cnt, zv1, zv2, zw1, zw2, hc43, hr, hq1, hq2⟩ := hr
      have hFc := fr_all hD hS hA
      obtain ⟨i12, hi12⟩ := hW.o0 hk_a31
      refine va_callv (va_runV (As := [.int p0, .ref (ad a36), .ref (ad a40)]) (rest := []) ⟨hx, hb, hml, hown, hts⟩ (m_X0_fill l dC dI kk ad H.size w8 (va_up G 141 c4_G141) P U V X O kd ln cnt a31 p0 a36 a40 hk_a31 hk_a36 hk_a40 hW hT c43_G c43_P c43_U c43_V c43_X c43_O c43_kd c43_ln c43_cnt zv1 zv2 hc43) (cwV 3 hts gc_RX11_X0_fill_211 rfl rfl rfl (by decide +kernel) ⟨Nat.le_of_ble_eq_true rfl, Nat.le_of_ble_eq_true rfl⟩) ⟨fun a U g mk q => by obtain ⟨q0, q1, qP, qK, qD⟩ := q; exact ⟨q0, q1, qP, va_K.moved (u := U) (U := U.calling g mk a) (Vm.Alike.refl U.vm) qK, qD⟩, va_recv hK hP (ci := 0) (q0 := i12) rfl hi12, fun U hU hW => ⟨rfl, by rw [hU], by rw [hU]; exact hP, va_K.moved hW.alike hK, hD.weaken (fun _ _ _ _ => trivial)⟩⟩ rfl rfl hl.1 rfl (lv_room (Nat.le_of_ble_eq_true rfl)) dX11_back_43 ⟨(by show _ ≤ uc; omega), (by show _ ≤ us; omega)⟩) hS (fun q _ h => hFc q h) hFc (fun w13 t H1 locs ht hvm hw hB hz1 hk1 hS => ?_)
      obtain ⟨w13, ad43_13⟩ := w13
      dsimp only at hw hB
      obtain ⟨hW, hT, hE2⟩ := hw
      obtain ⟨hP1, hK1, hD1⟩ := hB
      rw [ht] at hP1
      obtain ⟨hP, hD⟩ := jn_all (w1 := w13) hFc hP1 hD1
      replace hP : va_P (dC, dI) vwCl w13 H1 := hP
      replace hD : va_D A w13 := hD
      clear hFc hP1 hK1 hD1 hk1 hz1 ht hvm
      generalize H1 = H at hP hS ⊢
      have ea_this : ad this = ad43_13 this := (hE2.1 this (by rw [hk_this]; decide)).symm
      have hk13_this := (hE2.2 this (by rw [hk_this]; decide)).trans hk_this
      rw [ea_this] at hl
      clear ea_this
      replace hE := adE hE hE2
      clear hE2
      obtain ⟨ccn14, eccn14⟩ : ∃ y : Nat, y = (0 + zv1) := ⟨_, rfl⟩
      obtain ⟨csn14, ecsn14⟩ : ∃ y : Nat, y = (0 + zv2) := ⟨_, rfl⟩
      refine W.widen (k := ccn14) (n := csn14) (Nat.le_of_eq eccn14.symm) (Nat.le_of_eq ecsn14.symm) ?_
      replace hu1 : ccn14 + zw1 = uc := by omega
      replace hu2 : csn14 + zw2 = us := by omega
      clear eccn14 ecsn14
      refine lv_aload_n hx hb dX11_back_46 rfl (lv_at hl 1 rfl) ?_
      refine lv_iconst (v := 0) hx hb dX11_back_47 (by decide +kernel) ?_
      obtain ⟨i15, hi15⟩ := hW.o11 hk13_this
      refine va_put (D := (dC, dI)) (ci := 11) (v := .int 0) (ty := .int) (C := RX11) (T := TX11) (N := 17) hx hb hts inX11 tyX11 tyX11_ok nmX11 hown hK hP hD hS i15 hi15 rfl 11 (by decide) (hts (.fieldLink RX11 75 "SpellTurner" "ownerCount" "I") ic_158) (fun _ h9 => h9) rfl (by decide +kernel) rfl rfl (Nat.le_of_ble_eq_true rfl) dX11_back_48 (fun H locs hP2 hD2 hS => ?_)
      obtain ⟨m48, w16, em48, hP, hD, hW⟩ : ∃ (z : Nat → Int32) (w : va_W), z = (va_up (c43_G 231) this 0) ∧ va_P (dC, dI) vwCl w H ∧ va_D A w ∧ LW w ad43_13 kk c43_kd c43_ln (va_up c43_G 231 z) c43_P c43_U c43_V c43_X c43_O := ⟨_, _, rfl, hP2, hD2, hW.setG hD hi15 (by rw [hk13_this]; decide) 231 0 (by rw [hk13_this]; rfl)⟩
      replace hr := vlS hr m48 em48
      clear em48
      refine lv_iconst (v := 0) hx hb dX11_back_51 (by decide +kernel) ?_
      refine lv_istore_n (lv' := [(3, .int 0), (2, .int r4), (0, .ref (ad43_13 this)), (1, .int p0)]) hx hb dX11_back_52 rfl hl (by decide) rfl (fun ls hl => ?_)
      have lp53 : ∀ (n53 : Nat), ∀ (y53_3 : Int32) (d53_G231 : Nat → Int32) (d53_V4 : Nat → Nat → Int32) (ad43_13 : Nat → Nat) (ws : va_W) (H : Heap) (locs : List Loc) (ls : Array Slot) (cc cs u1 u2 : Nat), L_X11_back_53 this p0 r4 c43_G c43_P c43_U c43_V c43_X c43_O c43_kd c43_ln c43_cnt n53 y53_3 d53_G231 d53_V4 = some ((r, c_G, c_P, c_U, c_V, c_X, c_O, c_kd, c_ln, c_cnt), u1, u2) → cc + u1 = uc → cs + u2 = us → adEx kd ad c43_kd ad43_13 → LW ws ad43_13 kk c43_kd c43_ln (va_up c43_G 231 d53_G231) c43_P c43_U (va_up c43_V 4 d53_V4) c43_X c43_O → TYP c43_kd c43_P c43_O (c43_V 0) c43_cnt → va_P (dC, dI) vwCl ws H → va_D A ws → va_S A s.heap H locs → lv_has ls 4 [(0, .ref (ad43_13 this)), (1, .int p0), (2, .int r4), (3, .int y53_3)] → W p l e ({ frames := 49, cells := uc, slots := us, locals := 1273 } : Room) s m args below meth c H locs cc cs Q (F0 m 53 ls []) := by
        intro n53
        induction n53 with
        | zero => intro y53_3 d53_G231 d53_V4 ad43_13 ws H locs ls cc cs u1 u2 hr hu1 hu2 hE hW hT hP hD hS hl; exact nomatch (show none = some ((r, c_G, c_P, c_U, c_V, c_X, c_O, c_kd, c_ln, c_cnt), u1, u2) from hr)
        | succ n53 ih53 =>
          intro y53_3 d53_G231 d53_V4 ad43_13 ws H locs ls cc cs u1 u2 hr hu1 hu2 hE hW hT hP hD hS hl
          replace hr : B_X11_back_53 this p0 r4 c43_G c43_P c43_U c43_V c43_X c43_O c43_kd c43_ln c43_cnt (L_X11_back_53 this p0 r4 c43_G c43_P c43_U c43_V c43_X c43_O c43_kd c43_ln c43_cnt n53) y53_3 d53_G231 d53_V4 = some ((r, c_G, c_P, c_U, c_V, c_X, c_O, c_kd, c_ln, c_cnt), u1, u2) := hr
          unfold B_X11_back_53 at hr
          refine lv_iload_n hx hb dX11_back_53 rfl (lv_at hl 3 rfl) ?_
          refine lv_aload_n hx hb dX11_back_54 rfl (lv_at hl 0 rfl) ?_
          obtain ⟨i17, hi17⟩ := hW.o11 hk13_this
          replace hr := nnS hr
          obtain ⟨a55, hn55, hr⟩ := hr
          have hk_a55 : c43_kd a55 = 1 := hT.1 229 _ _ hn55
          refine va_get (D := (dC, dI)) (ci := 11) (v := .ref (ad43_13 a55)) (C := RX11) (T := TX11) (N := 17) hx hb hts inX11 hown hK hP i17 hi17 rfl 9 (by decide) (hts (.fieldLink RX11 67 "SpellTurner" "book" "LSpellTurner$Book;") ic_106) (fun _ h9 => h9) (congrArg (fun o => some (va_re ad43_13 o)) hn55) dX11_back_55 ?_
          obtain ⟨i18, hi18⟩ := hW.o0 hk_a55
          replace hr := nnS hr
          obtain ⟨a58, hn58, hr⟩ := hr
          have hk_a58 : c43_kd a58 = 11 := hT.1 0 _ _ hn58
          refine va_get (D := (dC, dI)) (ci := 0) (v := .ref (ad43_13 a58)) (C := RX0) (T := TX0) (N := 6) hx hb hts inX0 hown hK hP i18 hi18 rfl 0 (by decide) (hts (.fieldLink RX11 197 "SpellTurner$Book" "words" "LSpellTurner$WordRow;") ic_124) (fun _ h9 => h9) (congrArg (fun o => some (va_re ad43_13 o)) hn58) dX11_back_58 ?_
          obtain ⟨i19, hi19⟩ := hW.o10 hk_a58
          refine va_get (D := (dC, dI)) (ci := 10) (v := .int ((c43_G 203) a58)) (C := RX10) (T := TX10) (N := 4) hx hb hts inX10 hown hK hP i19 hi19 rfl 3 (by decide) (hts (.fieldLink RX11 151 "SpellTurner$WordRow" "count" "I") ic_67) (fun _ h9 => h9) rfl dX11_back_61 ?_
          refine lv_icmp_ge (tgt := 118) hx hb dX11_back_64 (by decide) (fun c64 => ?_) (fun c64 => ?_)
          · replace hr := iteT c64 hr
            refine lv_aload_n hx hb dX11_back_118 rfl (lv_at hl 0 rfl) ?_
            obtain ⟨i20, hi20⟩ := hW.o11 hk13_this
            refine va_get (D := (dC, dI)) (ci := 11) (v := .int (d53_G231 this)) (C := RX11) (T := TX11) (N := 17) hx hb hts inX11 hown hK hP i20 hi20 rfl 11 (by decide) (hts (.fieldLink RX11 75 "SpellTurner" "ownerCount" "I") ic_158) (fun _ h9 => h9) rfl dX11_back_119 ?_
            replace hr := retS hr
            obtain ⟨hr, hv1, hv2⟩ := hr
            refine W.widen (k := uc) (n := us) (by omega) (by omega) ?_
            exact K 122 ls _ _ _ _ _ _ _ _ _ _ ad43_13 ws H _ hr dX11_back_122 hE hW hT hP hD hS
          · replace hr := iteF c64 hr
            refine lv_aload_n hx hb dX11_back_67 rfl (lv_at hl 0 rfl) ?_
            obtain ⟨i21, hi21⟩ := hW.o11 hk13_this
            replace hr := nnS hr
            obtain ⟨a68, hn68, hr⟩ := hr
            have hk_a68 : c43_kd a68 = 1 := hT.1 229 _ _ hn68
            refine va_get (D := (dC, dI)) (ci := 11) (v := .ref (ad43_13 a68)) (C := RX11) (T := TX11) (N := 17) hx hb hts inX11 hown hK hP i21 hi21 rfl 9 (by decide) (hts (.fieldLink RX11 67 "SpellTurner" "book" "LSpellTurner$Book;") ic_106) (fun _ h9 => h9) (congrArg (fun o => some (va_re ad43_13 o)) hn68) dX11_back_68 ?_
            refine lv_iload_n hx hb dX11_back_71 rfl (lv_at hl 1 rfl) ?_
            refine lv_iload_n hx hb dX11_back_72 rfl (lv_at hl 3 rfl) ?_
            replace hr := b1S hr
            obtain ⟨r73, hc73, hr⟩ := hr
            have hFc := fr_all hD hS hA
            obtain ⟨i22, hi22⟩ := hW.o0 hk_a68
            refine va_calle (va_runV (As := [.int p0, .int y53_3]) (rest := []) ⟨hx, hb, hml, hown, hts⟩ (m_X0_formsAt l dC dI kk ad43_13 H.size ws (va_up c43_G 231 d53_G231) c43_P c43_U (va_up c43_V 4 d53_V4) c43_X c43_O c43_kd c43_ln c43_cnt a68 p0 y53_3 hk_a68 hW hT r73 hc73) (cwV 2 hts gc_RX11_X0_formsAt_215 rfl rfl rfl (by decide +kernel) ⟨Nat.le_of_ble_eq_true rfl, Nat.le_of_ble_eq_true rfl⟩) ⟨fun a U g mk q => by obtain ⟨q0, q1, qP, qK, qD⟩ := q; exact ⟨q0, q1, qP, va_K.moved (u := U) (U := U.calling g mk a) (Vm.Alike.refl U.vm) qK, qD⟩, va_recv hK hP (ci := 0) (q0 := i22) rfl hi22, fun U hU hW => ⟨rfl, by rw [hU], by rw [hU]; exact hP, va_K.moved hW.alike hK, hD.weaken (fun _ _ _ _ => trivial)⟩⟩ rfl rfl hl.1 rfl (lv_room (Nat.le_of_ble_eq_true rfl)) dX11_back_73 ⟨(by show _ ≤ uc; omega), (by show _ ≤ us; omega)⟩) hS (fun q _ h => hFc q h) hFc (fun qo73 w23 t H1 locs ht hvm hw hB hz1 hk1 hS => ?_)
            obtain ⟨hw0, hW, hT, hkr73⟩ := hw
            subst hw0
            obtain ⟨hP1, hK1, hD1⟩ := hB
            rw [ht] at hP1
            obtain ⟨hP, hD⟩ := jn_all (w1 := w23) hFc hP1 hD1
            replace hP : va_P (dC, dI) vwCl w23 H1 := hP
            replace hD : va_D A w23 := hD
            clear hFc hP1 hK1 hD1 hk1 hz1 ht hvm
            generalize H1 = H at hP hS ⊢
            refine lv_aload_n hx hb dX11_back_76 rfl (lv_at hl 0 rfl) ?_
            obtain ⟨i24, hi24⟩ := hW.o11 hk13_this
            replace hr := nnS hr
            obtain ⟨a77, hn77, hr⟩ := hr
            have hk_a77 : c43_kd a77 = 8 := hT.1 220 _ _ hn77
            refine va_get (D := (dC, dI)) (ci := 11) (v := .ref (ad43_13 a77)) (C := RX11) (T := TX11) (N := 17) hx hb hts inX11 hown hK hP i24 hi24 rfl 0 (by decide) (hts (.fieldLink RX11 12 "SpellTurner" "tape" "LSpellTurner$Tape;") ic_48) (fun _ h9 => h9) (congrArg (fun o => some (va_re ad43_13 o)) hn77) dX11_back_77 ?_
            obtain ⟨i25, hi25⟩ := hW.o7 hk_a77
            replace hr := nnS hr
            obtain ⟨a80, hn80, hr⟩ := hr
            have hk_a80 : c43_kd a80 = 100 := hT.1 140 _ _ hn80
            refine va_get (D := (dC, dI)) (ci := 7) (v := .ref (ad43_13 a80)) (C := RX7) (T := TX7) (N := 2) hx hb hts inX7 hown hK hP i25 hi25 rfl 0 (by decide) (hts (.fieldLink RX11 120 "SpellTurner$Tape" "bytes" "[B") ic_107) (fun _ h9 => h9) (congrArg (fun o => some (va_re ad43_13 o)) hn80) dX11_back_80 ?_
            refine lv_iconst (v := 0) hx hb dX11_back_83 (by decide +kernel) ?_
            refine lv_iload_n hx hb dX11_back_84 rfl (lv_at hl 2 rfl) ?_
            replace hr := b1S hr
            obtain ⟨r85z, hc85, hr⟩ := hr
            have hFc := fr_all hD hS hA
            obtain ⟨i26, hi26⟩ := hW.o10 hkr73
            refine va_calli (va_runV (As := [.ref (ad43_13 a80), .int 0, .int r4]) (rest := []) ⟨hx, hb, hml, hown, hts⟩ (m_X10_find l dC dI kk ad43_13 H.size w23 (va_up c43_G 231 d53_G231) c43_P c43_U (va_up c43_V 4 d53_V4) c43_X c43_O c43_kd c43_ln c43_cnt r73 a80 0 r4 hkr73 hk_a80 hW hT r85z hc85) (cwV 3 hts gc_RX11_X10_find_180 rfl rfl rfl (by decide +kernel) ⟨Nat.le_of_ble_eq_true rfl, Nat.le_of_ble_eq_true rfl⟩) ⟨fun a U g mk q => by obtain ⟨q0, q1, qP, qK, qD⟩ := q; exact ⟨q0, q1, qP, va_K.moved (u := U) (U := U.calling g mk a) (Vm.Alike.refl U.vm) qK, qD⟩, va_recv hK hP (ci := 10) (q0 := i26) rfl hi26, fun U hU hW => ⟨rfl, by rw [hU], by rw [hU]; exact hP, va_K.moved hW.alike hK, hD.weaken (fun _ _ _ _ => trivial)⟩⟩ rfl rfl hl.1 rfl (lv_room (Nat.le_of_ble_eq_true rfl)) dX11_back_85 ⟨(by show _ ≤ uc; omega), (by show _ ≤ us; omega)⟩) hS (fun q _ h => hFc q h) hFc (fun r85 w27 t H1 locs ht hvm hw hB hz1 hk1 hS => ?_)
            obtain ⟨hw0, hW, hT⟩ := hw
            replace hw0 : r85 = r85z := hw0
            subst hw0
            obtain ⟨hP1, hK1, hD1⟩ := hB
            rw [ht] at hP1
            obtain ⟨hP, hD⟩ := jn_all (w1 := w27) hFc hP1 hD1
            replace hP : va_P (dC, dI) vwCl w27 H1 := hP
            replace hD : va_D A w27 := hD
            clear hFc hP1 hK1 hD1 hk1 hz1 ht hvm
            generalize H1 = H at hP hS ⊢
            refine lv_iconst (v := (-1)) hx hb dX11_back_88 (by decide +kernel) ?_
            replace hr := jnS hr
            obtain ⟨j112, hj112, hr⟩ := hr
            have Jj112 : ∀ (c112_G231 : Nat → Int32) (c112_V4 : Nat → Nat → Int32) (ad43_13 : Nat → Nat) (ws : va_W) (H : Heap) (locs : List Loc) (ls : Array Slot) (cc cs u1 u2 : Nat), j112 c112_G231 c112_V4 = some ((r, c_G, c_P, c_U, c_V, c_X, c_O, c_kd, c_ln, c_cnt), u1, u2) → cc + u1 = uc → cs + u2 = us → adEx kd ad c43_kd ad43_13 → LW ws ad43_13 kk c43_kd c43_ln (va_up c43_G 231 c112_G231) c43_P c43_U (va_up c43_V 4 c112_V4) c43_X c43_O → TYP c43_kd c43_P c43_O (c43_V 0) c43_cnt → va_P (dC, dI) vwCl ws H → va_D A ws → va_S A s.heap H locs → lv_has ls 4 [(0, .ref (ad43_13 this)), (1, .int p0), (2, .int r4), (3, .int y53_3)] → W p l e ({ frames := 49, cells := uc, slots := us, locals := 1273 } : Room) s m args below meth c H locs cc cs Q (F0 m 112 ls []) := by
              intro c112_G231 c112_V4 ad43_13 ws H locs ls cc cs u1 u2 hr hu1 hu2 hE hW hT hP hD hS hl
              rw [hj112] at hr
              refine lv_iinc (v := (y53_3 + 1)) (lv' := [(3, .int (y53_3 + 1)), (0, .ref (ad43_13 this)), (1, .int p0), (2, .int r4)]) hx hb dX11_back_112 hl (k := 3) rfl rfl (by decide) rfl (fun ls hl => ?_)
              refine lv_goto (tgt := 53) hx hb dX11_back_115 (by decide) ?_
              exact ih53 (y53_3 + 1) c112_G231 c112_V4 ad43_13 ws H _ ls cc cs _ _ hr hu1 hu2 hE hW hT hP hD hS (lv_sub hl [1, 2, 3, 0] rfl)
            refine lv_icmp_eq (tgt := 112) hx hb dX11_back_89 (by decide) (fun c89 => ?_) (fun c89 => ?_)
            · replace hr := iteT c89 hr
              exact Jj112 d53_G231 d53_V4 ad43_13 w27 H _ ls cc cs _ _ hr hu1 hu2 hE hW hT hP hD hS (lv_sub hl [0, 1, 2, 3] rfl)
            · replace hr := iteF c89 hr
              refine lv_aload_n hx hb dX11_back_92 rfl (lv_at hl 0 rfl) ?_
              obtain ⟨i28, hi28⟩ := hW.o11 hk13_this
              replace hr := nnS hr
              obtain ⟨a93, hn93, hr⟩ := hr
              have hk_a93 : c43_kd a93 = 104 := hT.1 230 _ _ hn93
              refine va_get (D := (dC, dI)) (ci := 11) (v := .ref (ad43_13 a93)) (C := RX11) (T := TX11) (N := 17) hx hb hts inX11 hown hK hP i28 hi28 rfl 10 (by decide) (hts (.fieldLink RX11 71 "SpellTurner" "owners" "[I") ic_159) (fun _ h9 => h9) (congrArg (fun o => some (va_re ad43_13 o)) hn93) dX11_back_93 ?_
              refine lv_aload_n hx hb dX11_back_96 rfl (lv_at hl 0 rfl) ?_
              obtain ⟨i29, hi29⟩ := hW.o11 hk13_this
              refine va_get (D := (dC, dI)) (ci := 11) (v := .int (d53_G231 this)) (C := RX11) (T := TX11) (N := 17) hx hb hts inX11 hown hK hP i29 hi29 rfl 11 (by decide) (hts (.fieldLink RX11 75 "SpellTurner" "ownerCount" "I") ic_158) (fun _ h9 => h9) rfl dX11_back_97 ?_
              refine lv_iload_n hx hb dX11_back_100 rfl (lv_at hl 3 rfl) ?_
              obtain ⟨i30, hi30⟩ := hW.v4 hk_a93
              replace hr := iteS hr
              obtain ⟨hi101, hr⟩ := hr
              refine va_iast (f := (d53_V4 a93)) hx hb hK hP hD hS i30 1 hi30 rfl (inbV hi101) dX11_back_101 (fun H locs hP2 hD2 hS => ?_)
              obtain ⟨m101, w31, em101, hP, hD, hW⟩ : ∃ (z : Nat → Nat → Int32) (w : va_W), z = (va_up d53_V4 a93 (upd (d53_V4 a93) (Int32.toNatClampNeg (d53_G231 this)) y53_3)) ∧ va_P (dC, dI) vwCl w H ∧ va_D A w ∧ LW w ad43_13 kk c43_kd c43_ln (va_up c43_G 231 d53_G231) c43_P c43_U (va_up (va_up c43_V 4 d53_V4) 4 z) c43_X c43_O := ⟨_, _, rfl, hP2, hD2, hW.setV hD hi30 (by rw [hk_a93]; decide) 4 (upd (d53_V4 a93) (Int32.toNatClampNeg (d53_G231 this)) y53_3) (by rw [hk_a93]; rfl)⟩
              replace hr := vlS hr m101 em101
              clear em101
              refine lv_aload_n hx hb dX11_back_102 rfl (lv_at hl 0 rfl) ?_
              refine lv_dup hx hb dX11_back_103 rfl ?_
              obtain ⟨i32, hi32⟩ := hW.o11 hk13_this
              refine va_get (D := (dC, dI)) (ci := 11) (v := .int (d53_G231 this)) (C := RX11) (T := TX11) (N := 17) hx hb hts inX11 hown hK hP i32 hi32 rfl 11 (by decide) (hts (.fieldLink RX11 75 "SpellTurner" "ownerCount" "I") ic_158) (fun _ h9 => h9) rfl dX11_back_104 ?_
              refine lv_iconst (v := 1) hx hb dX11_back_107 (by decide +kernel) ?_
              refine lv_iadd hx hb dX11_back_108 ?_
              refine lv_topi (fun x109 ex109 => ?_)
              replace hr := vlS hr x109 ex109
              clear ex109
              obtain ⟨i33, hi33⟩ := hW.o11 hk13_this
              refine va_put (D := (dC, dI)) (ci := 11) (v := .int x109) (ty := .int) (C := RX11) (T := TX11) (N := 17) hx hb hts inX11 tyX11 tyX11_ok nmX11 hown hK hP hD hS i33 hi33 rfl 11 (by decide) (hts (.fieldLink RX11 75 "SpellTurner" "ownerCount" "I") ic_158) (fun _ h9 => h9) rfl (by decide +kernel) rfl rfl (Nat.le_of_ble_eq_true rfl) dX11_back_109 (fun H locs hP2 hD2 hS => ?_)
              obtain ⟨m109, w34, em109, hP, hD, hW⟩ : ∃ (z : Nat → Int32) (w : va_W), z = (va_up d53_G231 this x109) ∧ va_P (dC, dI) vwCl w H ∧ va_D A w ∧ LW w ad43_13 kk c43_kd c43_ln (va_up (va_up c43_G 231 d53_G231) 231 z) c43_P c43_U (va_up (va_up c43_V 4 d53_V4) 4 m101) c43_X c43_O := ⟨_, _, rfl, hP2, hD2, hW.setG hD hi33 (by rw [hk13_this]; decide) 231 x109 (by rw [hk13_this]; rfl)⟩
              replace hr := vlS hr m109 em109
              clear em109
              have eG : (va_up (va_up c43_G 231 d53_G231) 231 m109) = (va_up c43_G 231 m109) := by
                funext k
                by_cases h231 : k = 231
                · subst h231; rfl
                · simp only [va_up, h231, if_false]
              rw [eG] at hW
              clear eG
              have eV : (va_up (va_up c43_V 4 d53_V4) 4 m101) = (va_up c43_V 4 m101) := by
                funext k
                by_cases h4 : k = 4
                · subst h4; rfl
                · simp only [va_up, h4, if_false]
              rw [eV] at hW
              clear eV
              exact Jj112 m109 m101 ad43_13 w34 H _ ls cc cs _ _ hr hu1 hu2 hE hW hT hP hD hS (lv_sub hl [0, 1, 2, 3] rfl)
      have eV : c43_V = (va_up c43_V 4 (c43_V 4)) := by
        funext k
        by_cases h4 : k = 4
        · subst h4; rfl
        · simp only [va_up, h4, if_false]
      rw [eV] at hW
      clear eV
      exact lp53 NN 0 m48 (c43_V 4) ad43_13 w16 H _ ls ccn14 csn14 _ _ hr hu1 hu2 hE hW hT hP hD hS (lv_sub hl [2, 3, 1, 0] rfl)
    · replace hr := iteT c24 hr
      exact Jj27 w8 H _ ls 0 0 _ _ hr hu1 hu2 hE hW hT hP hD hS (lv_sub hl [] rfl)
set_option maxHeartbeats 4000000 in
set_option maxRecDepth 100000 in
theorem m_X11_back (l : Launch) (dC : Nat → ClassId) (dI : Nat → Nat → Nat) (kk : Nat → ClassId) (ad : Nat → Nat) (sz : Nat) (ws : va_W) (G : Nat → Nat → Int32) (P : Nat → Nat → Option Nat) (U : Nat → Nat → Int64) (V : Nat → Nat → Nat → Int32) (X : Nat → Nat → Nat → Int64) (O : Nat → Nat → Nat → Option Nat) (kd : Nat → Nat) (ln : Nat → Nat) (cnt : Nat) (this : Nat) (p0 : Int32) (hk_this : kd this = 12) (hW : LW ws ad kk kd ln G P U V X O) (hT : TYP kd P O (V 0) cnt) (r : Int32) (c_G : Nat → Nat → Int32) (c_P : Nat → Nat → Option Nat) (c_U : Nat → Nat → Int64) (c_V : Nat → Nat → Nat → Int32) (c_X : Nat → Nat → Nat → Int64) (c_O : Nat → Nat → Nat → Option Nat) (c_kd : Nat → Nat) (c_ln : Nat → Nat) (c_cnt : Nat) (uc us : Nat) (hr : f_X11_back G P U V X O kd ln cnt this p0 = some ((r, c_G, c_P, c_U, c_V, c_X, c_O, c_kd, c_ln, c_cnt), uc, us)) : Met l yX11_back vmX11_back ({ frames := 49, cells := uc, slots := us, locals := 1273 } : Room) (va_Pc [.ref (ad this), .int p0] (fun U => U.heap.size = sz ∧ va_P (dC, dI) vwCl ws U.heap ∧ va_K (dC, dI) vwCl (cT kk) U ∧ va_D (fun _ => True) ws)) (va_Qi (fun (rz : Int32) (x : (va_W × (Nat → Nat))) => rz = r ∧ LW x.1 x.2 kk c_kd c_ln c_G c_P c_U c_V c_X c_O ∧ TYP c_kd c_P c_O (c_V 0) c_cnt ∧ adEx kd ad c_kd x.2) (fun x t => va_P (dC, dI) vwCl x.1 t.heap ∧ va_K (dC, dI) vwCl (cT kk) t ∧ va_D (va_A ws sz) x.1) (va_A ws sz)) uc us (va_A ws sz) := by
  refine Met.ofW (cc := cX11_back) (maxL := 4) (ret := (some .int)) (by decide) rfl ?_
  intro p e s m args below meth c s₁ B hml hv
  obtain ⟨rfl, hsz, hP, hK, hD0⟩ := hv
  have hx := B.exec
  have hb := B.bytes
  have hrt := B.returns
  have hts := atoms_spec (ws := vmX11_back) B.pre
  have hown : s.vm.findClass RX11 = some m.cls := findClass_of_methodNamed B.named
  subst hsz
  have hD := hD0.self (sz := s.heap.size)
  generalize hAe : va_A ws s.heap.size = A at hD ⊢
  have hA : ∀ q : Nat, s.heap.size ≤ q → A q := fun q h => by rw [← hAe]; exact Or.inr h
  have hS : va_S A s.heap s.heap [] := va_S.rf
  have hl := lv_entry ([.ref (ad this), .int p0]) (n := 4) (Nat.le_of_ble_eq_true rfl)
  rw [lg_entry_eq]
  generalize (lg_sl ([.ref (ad this), .int p0]) ++ List.replicate (4 - (lg_sl ([.ref (ad this), .int p0])).length) Slot.unset).toArray = ls at hl ⊢
  exact bm_X11_back this p0 hk_this r c_G c_P c_U c_V c_X c_O c_kd c_ln c_cnt uc us hr hx hb hml hown hts hA hK hW hT hP hD hS hl (fun pc ls rz c_Gz c_Pz c_Uz c_Vz c_Xz c_Oz c_kdz c_lnz c_cntz adz ws H locs he hd hE hW hT hP hD hS => by cases he; exact W.iret (v := r) hx hb hrt (fun t ht hW9 => ⟨⟨r, (ws, adz), rfl, ⟨rfl, hW, hT, hE⟩, by rw [ht]; exact hP, va_K.moved hW9.alike hK, hD⟩, hS.F ht⟩) hS.2.2 hd)
set_option maxHeartbeats 4000000 in
set_option maxRecDepth 100000 in
theorem bm_X11_collisions {p : Program} {l : Launch} {e : Env} {s : State} {m : MethodId} {args : Array Value} {below : List Frame} {meth : Method} {c : Code} {Q : State → Prop} {A : Nat → Prop} {dC : Nat → ClassId} {dI : Nat → Nat → Nat} {kk : Nat → ClassId} {ad : Nat → Nat} {ws : va_W} {G : Nat → Nat → Int32} {P : Nat → Nat → Option Nat} {U : Nat → Nat → Int64} {V : Nat → Nat → Nat → Int32} {X : Nat → Nat → Nat → Int64} {O : Nat → Nat → Nat → Option Nat} {kd : Nat → Nat} {ln : Nat → Nat} {cnt : Nat} {H : Heap} {locs : List Loc} {ls : Array Slot} (this : Nat) (p0 : Int32) (hk_this : kd this = 12) (r : Int32) (c_G : Nat → Nat → Int32) (c_P : Nat → Nat → Option Nat) (c_U : Nat → Nat → Int64) (c_V : Nat → Nat → Nat → Int32) (c_X : Nat → Nat → Nat → Int64) (c_O : Nat → Nat → Nat → Option Nat) (c_kd : Nat → Nat) (c_ln : Nat → Nat) (c_cnt : Nat) (uc us : Nat) (hr : f_X11_collisions G P U V X O kd ln cnt this p0 = some ((r, c_G, c_P, c_U, c_V, c_X, c_O, c_kd, c_ln, c_cnt), uc, us)) (hx : p.tables.exec = Jvm.exec) (hb : c.code = cX11_collisions) (hml : c.maxLocals = 5) (hown : s.vm.findClass RX11 = some m.cls) (hts : ∀ w ∈ vmX11_collisions, w.before args s = true) (hA : ∀ q : Nat, s.heap.size ≤ q → A q) (hK : va_K (dC, dI) vwCl (cT kk) s) (hW : LW ws ad kk kd ln G P U V X O) (hT : TYP kd P O (V 0) cnt) (hP : va_P (dC, dI) vwCl ws H) (hD : va_D A ws) (hS : va_S A s.heap H locs) (hl : lv_has ls 5 [(0, .ref (ad this)), (1, .int p0)])
    (K : ∀ (pc : Nat) (ls : Array Slot) (rz : Int32) (c_Gz : Nat → Nat → Int32) (c_Pz : Nat → Nat → Option Nat) (c_Uz : Nat → Nat → Int64) (c_Vz : Nat → Nat → Nat → Int32) (c_Xz : Nat → Nat → Nat → Int64) (c_Oz : Nat → Nat → Nat → Option Nat) (c_kdz : Nat → Nat) (c_lnz : Nat → Nat) (c_cntz : Nat) (adz : Nat → Nat) (ws : va_W) (H : Heap) (locs : List Loc), some (rz, c_Gz, c_Pz, c_Uz, c_Vz, c_Xz, c_Oz, c_kdz, c_lnz, c_cntz) = some (r, c_G, c_P, c_U, c_V, c_X, c_O, c_kd, c_ln, c_cnt) → decode cX11_collisions pc = .ok (.ireturn, 1) → adEx kd ad c_kdz adz → LW ws adz kk c_kdz c_lnz c_Gz c_Pz c_Uz c_Vz c_Xz c_Oz → TYP c_kdz c_Pz c_Oz (c_Vz 0) c_cntz → va_P (dC, dI) vwCl ws H → va_D A ws → va_S A s.heap H locs → W p l e ({ frames := 49, cells := uc, slots := us, locals := 1273 } : Room) s m args below meth c H locs uc us Q (F0 m pc ls [.int rz])) : W p l e ({ frames := 49, cells := uc, slots := us, locals := 1273 } : Room) s m args below meth c H locs 0 0 Q (F0 m 0 ls []) := by
  have hu1 : 0 + uc = uc := Nat.zero_add _
  have hu2 : 0 + us = us := Nat.zero_add _
  have hE : adEx kd ad kd ad := ⟨fun _ _ => rfl, fun _ _ => rfl⟩
  unfold f_X11_collisions at hr
  refine lv_aload_n hx hb dX11_collisions_0 rfl (lv_at hl 0 rfl) ?_
  refine lv_iconst (v := 0) hx hb dX11_collisions_1 (by decide +kernel) ?_
  obtain ⟨i1, hi1⟩ := hW.o11 hk_this
  refine va_put (D := (dC, dI)) (ci := 11) (v := .int 0) (ty := .int) (C := RX11) (T := TX11) (N := 17) hx hb hts inX11 tyX11 tyX11_ok nmX11 hown hK hP hD hS i1 hi1 rfl 13 (by decide) (hts (.fieldLink RX11 81 "SpellTurner" "pairCount" "I") ic_121) (fun _ h9 => h9) rfl (by decide +kernel) rfl rfl (Nat.le_of_ble_eq_true rfl) dX11_collisions_2 (fun H locs hP2 hD2 hS => ?_)
  obtain ⟨m2, w2, em2, hP, hD, hW⟩ : ∃ (z : Nat → Int32) (w : va_W), z = (va_up (G 233) this 0) ∧ va_P (dC, dI) vwCl w H ∧ va_D A w ∧ LW w ad kk kd ln (va_up G 233 z) P U V X O := ⟨_, _, rfl, hP2, hD2, hW.setG hD hi1 (by rw [hk_this]; decide) 233 0 (by rw [hk_this]; rfl)⟩
  replace hr := vlS hr m2 em2
  clear em2
  refine lv_aload_n hx hb dX11_collisions_5 rfl (lv_at hl 0 rfl) ?_
  refine lv_iload_n hx hb dX11_collisions_6 rfl (lv_at hl 1 rfl) ?_
  replace hr := b1S hr
  obtain ⟨r7z, hc7, hr⟩ := hr
  have hFc := fr_all hD hS hA
  obtain ⟨i3, hi3⟩ := hW.o11 hk_this
  refine va_calli (va_runV (As := [.int p0]) (rest := []) ⟨hx, hb, hml, hown, hts⟩ (m_X11_isStage l dC dI kk ad H.size w2 (va_up G 233 m2) P U V X O kd ln cnt this p0 hk_this hW hT r7z hc7) (cwV 1 hts gc_RX11_X11_isStage_208 rfl rfl rfl (by decide +kernel) ⟨Nat.le_of_ble_eq_true rfl, Nat.le_of_ble_eq_true rfl⟩) ⟨fun a U g mk q => by obtain ⟨q0, q1, qP, qK, qD⟩ := q; exact ⟨q0, q1, qP, va_K.moved (u := U) (U := U.calling g mk a) (Vm.Alike.refl U.vm) qK, qD⟩, va_recv hK hP (ci := 11) (q0 := i3) rfl hi3, fun U hU hW => ⟨rfl, by rw [hU], by rw [hU]; exact hP, va_K.moved hW.alike hK, hD.weaken (fun _ _ _ _ => trivial)⟩⟩ rfl rfl hl.1 rfl (lv_room (Nat.le_of_ble_eq_true rfl)) dX11_collisions_7 ⟨(by show _ ≤ uc; omega), (by show _ ≤ us; omega)⟩) hS (fun q _ h => hFc q h) hFc (fun r7 w4 t H1 locs ht hvm hw hB hz1 hk1 hS => ?_)
  obtain ⟨hw0, hW, hT⟩ := hw
  replace hw0 : r7 = r7z := hw0
  subst hw0
  obtain ⟨hP1, hK1, hD1⟩ := hB
  rw [ht] at hP1
  obtain ⟨hP, hD⟩ := jn_all (w1 := w4) hFc hP1 hD1
  replace hP : va_P (dC, dI) vwCl w4 H1 := hP
  replace hD : va_D A w4 := hD
  clear hFc hP1 hK1 hD1 hk1 hz1 ht hvm
  generalize H1 = H at hP hS ⊢
  refine lv_if_ne (tgt := 16) hx hb dX11_collisions_10 (by decide) (fun c10 => ?_) (fun c10 => ?_)
  · replace hr := iteF c10 hr
    refine lv_aload_n hx hb dX11_collisions_16 rfl (lv_at hl 0 rfl) ?_
    obtain ⟨i5, hi5⟩ := hW.o11 hk_this
    replace hr := nnS hr
    obtain ⟨a17, hn17, hr⟩ := hr
    have hk_a17 : kd a17 = 1 := hT.1 229 _ _ hn17
    refine va_get (D := (dC, dI)) (ci := 11) (v := .ref (ad a17)) (C := RX11) (T := TX11) (N := 17) hx hb hts inX11 hown hK hP i5 hi5 rfl 9 (by decide) (hts (.fieldLink RX11 67 "SpellTurner" "book" "LSpellTurner$Book;") ic_106) (fun _ h9 => h9) (congrArg (fun o => some (va_re ad o)) hn17) dX11_collisions_17 ?_
    refine lv_iload_n hx hb dX11_collisions_20 rfl (lv_at hl 1 rfl) ?_
    refine lv_aload_n hx hb dX11_collisions_21 rfl (lv_at hl 0 rfl) ?_
    obtain ⟨i6, hi6⟩ := hW.o11 hk_this
    replace hr := nnS hr
    obtain ⟨a22, hn22, hr⟩ := hr
    have hk_a22 : kd a22 = 302 := hT.1 221 _ _ hn22
    refine va_get (D := (dC, dI)) (ci := 11) (v := .ref (ad a22)) (C := RX11) (T := TX11) (N := 17) hx hb hts inX11 hown hK hP i6 hi6 rfl 1 (by decide) (hts (.fieldLink RX11 18 "SpellTurner" "reforms" "[LSpellTurner$Reform;") ic_56) (fun _ h9 => h9) (congrArg (fun o => some (va_re ad o)) hn22) dX11_collisions_22 ?_
    refine lv_aload_n hx hb dX11_collisions_25 rfl (lv_at hl 0 rfl) ?_
    obtain ⟨i7, hi7⟩ := hW.o11 hk_this
    replace hr := nnS hr
    obtain ⟨a26, hn26, hr⟩ := hr
    have hk_a26 : kd a26 = 10 := hT.1 226 _ _ hn26
    refine va_get (D := (dC, dI)) (ci := 11) (v := .ref (ad a26)) (C := RX11) (T := TX11) (N := 17) hx hb hts inX11 hown hK hP i7 hi7 rfl 6 (by decide) (hts (.fieldLink RX11 44 "SpellTurner" "turner" "LSpellTurner$Turner;") ic_340) (fun _ h9 => h9) (congrArg (fun o => some (va_re ad o)) hn26) dX11_collisions_26 ?_
    replace hr := bA9S hr
    obtain ⟨c29_G, c29_P, c29_U, c29_V, c29_X, c29_O, c29_kd, c29_ln, c29_cnt, zv1, zv2, zw1, zw2, hc29, hr, hq1, hq2⟩ := hr
    have hFc := fr_all hD hS hA
    obtain ⟨i8, hi8⟩ := hW.o0 hk_a17
    refine va_callv (va_runV (As := [.int p0, .ref (ad a22), .ref (ad a26)]) (rest := []) ⟨hx, hb, hml, hown, hts⟩ (m_X0_fill l dC dI kk ad H.size w4 (va_up G 233 m2) P U V X O kd ln cnt a17 p0 a22 a26 hk_a17 hk_a22 hk_a26 hW hT c29_G c29_P c29_U c29_V c29_X c29_O c29_kd c29_ln c29_cnt zv1 zv2 hc29) (cwV 3 hts gc_RX11_X0_fill_211 rfl rfl rfl (by decide +kernel) ⟨Nat.le_of_ble_eq_true rfl, Nat.le_of_ble_eq_true rfl⟩) ⟨fun a U g mk q => by obtain ⟨q0, q1, qP, qK, qD⟩ := q; exact ⟨q0, q1, qP, va_K.moved (u := U) (U := U.calling g mk a) (Vm.Alike.refl U.vm) qK, qD⟩, va_recv hK hP (ci := 0) (q0 := i8) rfl hi8, fun U hU hW => ⟨rfl, by rw [hU], by rw [hU]; exact hP, va_K.moved hW.alike hK, hD.weaken (fun _ _ _ _ => trivial)⟩⟩ rfl rfl hl.1 rfl (lv_room (Nat.le_of_ble_eq_true rfl)) dX11_collisions_29 ⟨(by show _ ≤ uc; omega), (by show _ ≤ us; omega)⟩) hS (fun q _ h => hFc q h) hFc (fun w9 t H1 locs ht hvm hw hB hz1 hk1 hS => ?_)
    obtain ⟨w9, ad29_9⟩ := w9
    dsimp only at hw hB
    obtain ⟨hW, hT, hE2⟩ := hw
    obtain ⟨hP1, hK1, hD1⟩ := hB
    rw [ht] at hP1
    obtain ⟨hP, hD⟩ := jn_all (w1 := w9) hFc hP1 hD1
    replace hP : va_P (dC, dI) vwCl w9 H1 := hP
    replace hD : va_D A w9 := hD
    clear hFc hP1 hK1 hD1 hk1 hz1 ht hvm
    generalize H1 = H at hP hS ⊢
    have ea_this : ad this = ad29_9 this := (hE2.1 this (by rw [hk_this]; decide)).symm
    have hk9_this := (hE2.2 this (by rw [hk_this]; decide)).trans hk_this
    rw [ea_this] at hl
    clear ea_this
    replace hE := adE hE hE2
    clear hE2
    obtain ⟨ccn10, eccn10⟩ : ∃ y : Nat, y = (0 + zv1) := ⟨_, rfl⟩
    obtain ⟨csn10, ecsn10⟩ : ∃ y : Nat, y = (0 + zv2) := ⟨_, rfl⟩
    refine W.widen (k := ccn10) (n := csn10) (Nat.le_of_eq eccn10.symm) (Nat.le_of_eq ecsn10.symm) ?_
    replace hu1 : ccn10 + zw1 = uc := by omega
    replace hu2 : csn10 + zw2 = us := by omega
    clear eccn10 ecsn10
    refine lv_iconst (v := 0) hx hb dX11_collisions_32 (by decide +kernel) ?_
    refine lv_istore_n (lv' := [(2, .int 0), (0, .ref (ad29_9 this)), (1, .int p0)]) hx hb dX11_collisions_33 rfl hl (by decide) rfl (fun ls hl => ?_)
    refine lv_iconst (v := 0) hx hb dX11_collisions_34 (by decide +kernel) ?_
    refine lv_istore_n (lv' := [(3, .int 0), (2, .int 0), (0, .ref (ad29_9 this)), (1, .int p0)]) hx hb dX11_collisions_35 rfl hl (by decide) rfl (fun ls hl => ?_)
    have lp36 : ∀ (n36 : Nat), ∀ (y36_2 : Int32) (y36_3 : Int32) (d36_G233 : Nat → Int32) (d36_V5 : Nat → Nat → Int32) (ad29_9 : Nat → Nat) (ws : va_W) (H : Heap) (locs : List Loc) (ls : Array Slot) (cc cs u1 u2 : Nat), L_X11_collisions_36 this p0 c29_G c29_P c29_U c29_V c29_X c29_O c29_kd c29_ln c29_cnt n36 y36_2 y36_3 d36_G233 d36_V5 = some ((r, c_G, c_P, c_U, c_V, c_X, c_O, c_kd, c_ln, c_cnt), u1, u2) → cc + u1 = uc → cs + u2 = us → adEx kd ad c29_kd ad29_9 → LW ws ad29_9 kk c29_kd c29_ln (va_up c29_G 233 d36_G233) c29_P c29_U (va_up c29_V 5 d36_V5) c29_X c29_O → TYP c29_kd c29_P c29_O (c29_V 0) c29_cnt → va_P (dC, dI) vwCl ws H → va_D A ws → va_S A s.heap H locs → lv_has ls 5 [(0, .ref (ad29_9 this)), (1, .int p0), (2, .int y36_2), (3, .int y36_3)] → W p l e ({ frames := 49, cells := uc, slots := us, locals := 1273 } : Room) s m args below meth c H locs cc cs Q (F0 m 36 ls []) := by
      intro n36
      induction n36 with
      | zero => intro y36_2 y36_3 d36_G233 d36_V5 ad29_9 ws H locs ls cc cs u1 u2 hr hu1 hu2 hE hW hT hP hD hS hl; exact nomatch (show none = some ((r, c_G, c_P, c_U, c_V, c_X, c_O, c_kd, c_ln, c_cnt), u1, u2) from hr)
      | succ n36 ih36 =>
        intro y36_2 y36_3 d36_G233 d36_V5 ad29_9 ws H locs ls cc cs u1 u2 hr hu1 hu2 hE hW hT hP hD hS hl
        replace hr : B_X11_collisions_36 this p0 c29_G c29_P c29_U c29_V c29_X c29_O c29_kd c29_ln c29_cnt (L_X11_collisions_36 this p0 c29_G c29_P c29_U c29_V c29_X c29_O c29_kd c29_ln c29_cnt n36) y36_2 y36_3 d36_G233 d36_V5 = some ((r, c_G, c_P, c_U, c_V, c_X, c_O, c_kd, c_ln, c_cnt), u1, u2) := hr
        unfold B_X11_collisions_36 at hr
        refine lv_iload_n hx hb dX11_collisions_36 rfl (lv_at hl 3 rfl) ?_
        refine lv_aload_n hx hb dX11_collisions_37 rfl (lv_at hl 0 rfl) ?_
        obtain ⟨i11, hi11⟩ := hW.o11 hk9_this
        replace hr := nnS hr
        obtain ⟨a38, hn38, hr⟩ := hr
        have hk_a38 : c29_kd a38 = 1 := hT.1 229 _ _ hn38
        refine va_get (D := (dC, dI)) (ci := 11) (v := .ref (ad29_9 a38)) (C := RX11) (T := TX11) (N := 17) hx hb hts inX11 hown hK hP i11 hi11 rfl 9 (by decide) (hts (.fieldLink RX11 67 "SpellTurner" "book" "LSpellTurner$Book;") ic_106) (fun _ h9 => h9) (congrArg (fun o => some (va_re ad29_9 o)) hn38) dX11_collisions_38 ?_
        obtain ⟨i12, hi12⟩ := hW.o0 hk_a38
        replace hr := nnS hr
        obtain ⟨a41, hn41, hr⟩ := hr
        have hk_a41 : c29_kd a41 = 11 := hT.1 0 _ _ hn41
        refine va_get (D := (dC, dI)) (ci := 0) (v := .ref (ad29_9 a41)) (C := RX0) (T := TX0) (N := 6) hx hb hts inX0 hown hK hP i12 hi12 rfl 0 (by decide) (hts (.fieldLink RX11 197 "SpellTurner$Book" "words" "LSpellTurner$WordRow;") ic_124) (fun _ h9 => h9) (congrArg (fun o => some (va_re ad29_9 o)) hn41) dX11_collisions_41 ?_
        obtain ⟨i13, hi13⟩ := hW.o10 hk_a41
        refine va_get (D := (dC, dI)) (ci := 10) (v := .int ((c29_G 203) a41)) (C := RX10) (T := TX10) (N := 4) hx hb hts inX10 hown hK hP i13 hi13 rfl 3 (by decide) (hts (.fieldLink RX11 151 "SpellTurner$WordRow" "count" "I") ic_67) (fun _ h9 => h9) rfl dX11_collisions_44 ?_
        refine lv_icmp_ge (tgt := 111) hx hb dX11_collisions_47 (by decide) (fun c47 => ?_) (fun c47 => ?_)
        · replace hr := iteT c47 hr
          refine lv_iload_n hx hb dX11_collisions_111 rfl (lv_at hl 2 rfl) ?_
          replace hr := retS hr
          obtain ⟨hr, hv1, hv2⟩ := hr
          refine W.widen (k := uc) (n := us) (by omega) (by omega) ?_
          exact K 112 ls _ _ _ _ _ _ _ _ _ _ ad29_9 ws H _ hr dX11_collisions_112 hE hW hT hP hD hS
        · replace hr := iteF c47 hr
          refine lv_iload_n hx hb dX11_collisions_50 rfl (lv_at hl 3 rfl) ?_
          refine lv_iconst (v := 1) hx hb dX11_collisions_51 (by decide +kernel) ?_
          refine lv_iadd hx hb dX11_collisions_52 ?_
          refine lv_topi (fun x53 ex53 => ?_)
          replace hr := vlS hr x53 ex53
          clear ex53
          refine lv_istore (lv' := [(4, .int x53), (0, .ref (ad29_9 this)), (1, .int p0), (2, .int y36_2), (3, .int y36_3)]) hx hb dX11_collisions_53 hl (by decide) rfl (fun ls hl => ?_)
          replace hr := jnS hr
          obtain ⟨k105, hk105, hr⟩ := hr
          have Jk105 : ∀ (x105_2 : Int32) (c105_G233 : Nat → Int32) (c105_V5 : Nat → Nat → Int32) (ad29_9 : Nat → Nat) (ws : va_W) (H : Heap) (locs : List Loc) (ls : Array Slot) (cc cs u1 u2 : Nat), k105 x105_2 c105_G233 c105_V5 = some ((r, c_G, c_P, c_U, c_V, c_X, c_O, c_kd, c_ln, c_cnt), u1, u2) → cc + u1 = uc → cs + u2 = us → adEx kd ad c29_kd ad29_9 → LW ws ad29_9 kk c29_kd c29_ln (va_up c29_G 233 c105_G233) c29_P c29_U (va_up c29_V 5 c105_V5) c29_X c29_O → TYP c29_kd c29_P c29_O (c29_V 0) c29_cnt → va_P (dC, dI) vwCl ws H → va_D A ws → va_S A s.heap H locs → lv_has ls 5 [(0, .ref (ad29_9 this)), (1, .int p0), (2, .int x105_2), (3, .int y36_3)] → W p l e ({ frames := 49, cells := uc, slots := us, locals := 1273 } : Room) s m args below meth c H locs cc cs Q (F0 m 105 ls []) := by
            intro x105_2 c105_G233 c105_V5 ad29_9 ws H locs ls cc cs u1 u2 hr hu1 hu2 hE hW hT hP hD hS hl
            rw [hk105] at hr
            refine lv_iinc (v := (y36_3 + 1)) (lv' := [(3, .int (y36_3 + 1)), (0, .ref (ad29_9 this)), (1, .int p0), (2, .int x105_2)]) hx hb dX11_collisions_105 hl (k := 3) rfl rfl (by decide) rfl (fun ls hl => ?_)
            refine lv_goto (tgt := 36) hx hb dX11_collisions_108 (by decide) ?_
            exact ih36 x105_2 (y36_3 + 1) c105_G233 c105_V5 ad29_9 ws H _ ls cc cs _ _ hr hu1 hu2 hE hW hT hP hD hS (lv_sub hl [1, 2, 3, 0] rfl)
          have lp55 : ∀ (n55 : Nat), ∀ (y55_2 : Int32) (y55_4 : Int32) (d55_G233 : Nat → Int32) (d55_V5 : Nat → Nat → Int32) (ad29_9 : Nat → Nat) (ws : va_W) (H : Heap) (locs : List Loc) (ls : Array Slot) (cc cs u1 u2 : Nat), L_X11_collisions_55 this p0 c29_G c29_P c29_U c29_V c29_X c29_O c29_kd c29_ln c29_cnt y36_3 k105 n55 y55_2 y55_4 d55_G233 d55_V5 = some ((r, c_G, c_P, c_U, c_V, c_X, c_O, c_kd, c_ln, c_cnt), u1, u2) → cc + u1 = uc → cs + u2 = us → adEx kd ad c29_kd ad29_9 → LW ws ad29_9 kk c29_kd c29_ln (va_up c29_G 233 d55_G233) c29_P c29_U (va_up c29_V 5 d55_V5) c29_X c29_O → TYP c29_kd c29_P c29_O (c29_V 0) c29_cnt → va_P (dC, dI) vwCl ws H → va_D A ws → va_S A s.heap H locs → lv_has ls 5 [(0, .ref (ad29_9 this)), (1, .int p0), (2, .int y55_2), (3, .int y36_3), (4, .int y55_4)] → W p l e ({ frames := 49, cells := uc, slots := us, locals := 1273 } : Room) s m args below meth c H locs cc cs Q (F0 m 55 ls []) := by
            intro n55
            induction n55 with
            | zero => intro y55_2 y55_4 d55_G233 d55_V5 ad29_9 ws H locs ls cc cs u1 u2 hr hu1 hu2 hE hW hT hP hD hS hl; exact nomatch (show none = some ((r, c_G, c_P, c_U, c_V, c_X, c_O, c_kd, c_ln, c_cnt), u1, u2) from hr)
            | succ n55 ih55 =>
              intro y55_2 y55_4 d55_G233 d55_V5 ad29_9 ws H locs ls cc cs u1 u2 hr hu1 hu2 hE hW hT hP hD hS hl
              replace hr : B_X11_collisions_55 this p0 c29_G c29_P c29_U c29_V c29_X c29_O c29_kd c29_ln c29_cnt y36_3 k105 (L_X11_collisions_55 this p0 c29_G c29_P c29_U c29_V c29_X c29_O c29_kd c29_ln c29_cnt y36_3 k105 n55) y55_2 y55_4 d55_G233 d55_V5 = some ((r, c_G, c_P, c_U, c_V, c_X, c_O, c_kd, c_ln, c_cnt), u1, u2) := hr
              unfold B_X11_collisions_55 at hr
              refine lv_iload hx hb dX11_collisions_55 (lv_at hl 4 rfl) ?_
              refine lv_aload_n hx hb dX11_collisions_57 rfl (lv_at hl 0 rfl) ?_
              obtain ⟨i14, hi14⟩ := hW.o11 hk9_this
              replace hr := nnS hr
              obtain ⟨a58, hn58, hr⟩ := hr
              have hk_a58 : c29_kd a58 = 1 := hT.1 229 _ _ hn58
              refine va_get (D := (dC, dI)) (ci := 11) (v := .ref (ad29_9 a58)) (C := RX11) (T := TX11) (N := 17) hx hb hts inX11 hown hK hP i14 hi14 rfl 9 (by decide) (hts (.fieldLink RX11 67 "SpellTurner" "book" "LSpellTurner$Book;") ic_106) (fun _ h9 => h9) (congrArg (fun o => some (va_re ad29_9 o)) hn58) dX11_collisions_58 ?_
              obtain ⟨i15, hi15⟩ := hW.o0 hk_a58
              replace hr := nnS hr
              obtain ⟨a61, hn61, hr⟩ := hr
              have hk_a61 : c29_kd a61 = 11 := hT.1 0 _ _ hn61
              refine va_get (D := (dC, dI)) (ci := 0) (v := .ref (ad29_9 a61)) (C := RX0) (T := TX0) (N := 6) hx hb hts inX0 hown hK hP i15 hi15 rfl 0 (by decide) (hts (.fieldLink RX11 197 "SpellTurner$Book" "words" "LSpellTurner$WordRow;") ic_124) (fun _ h9 => h9) (congrArg (fun o => some (va_re ad29_9 o)) hn61) dX11_collisions_61 ?_
              obtain ⟨i16, hi16⟩ := hW.o10 hk_a61
              refine va_get (D := (dC, dI)) (ci := 10) (v := .int ((c29_G 203) a61)) (C := RX10) (T := TX10) (N := 4) hx hb hts inX10 hown hK hP i16 hi16 rfl 3 (by decide) (hts (.fieldLink RX11 151 "SpellTurner$WordRow" "count" "I") ic_67) (fun _ h9 => h9) rfl dX11_collisions_64 ?_
              refine lv_icmp_ge (tgt := 105) hx hb dX11_collisions_67 (by decide) (fun c67 => ?_) (fun c67 => ?_)
              · replace hr := iteT c67 hr
                exact Jk105 y55_2 d55_G233 d55_V5 ad29_9 ws H _ ls cc cs _ _ hr hu1 hu2 hE hW hT hP hD hS (lv_sub hl [0, 1, 2, 3] rfl)
              · replace hr := iteF c67 hr
                refine lv_aload_n hx hb dX11_collisions_70 rfl (lv_at hl 0 rfl) ?_
                obtain ⟨i17, hi17⟩ := hW.o11 hk9_this
                replace hr := nnS hr
                obtain ⟨a71, hn71, hr⟩ := hr
                have hk_a71 : c29_kd a71 = 1 := hT.1 229 _ _ hn71
                refine va_get (D := (dC, dI)) (ci := 11) (v := .ref (ad29_9 a71)) (C := RX11) (T := TX11) (N := 17) hx hb hts inX11 hown hK hP i17 hi17 rfl 9 (by decide) (hts (.fieldLink RX11 67 "SpellTurner" "book" "LSpellTurner$Book;") ic_106) (fun _ h9 => h9) (congrArg (fun o => some (va_re ad29_9 o)) hn71) dX11_collisions_71 ?_
                refine lv_iload_n hx hb dX11_collisions_74 rfl (lv_at hl 1 rfl) ?_
                refine lv_iload_n hx hb dX11_collisions_75 rfl (lv_at hl 3 rfl) ?_
                refine lv_iload hx hb dX11_collisions_76 (lv_at hl 4 rfl) ?_
                replace hr := b1S hr
                obtain ⟨r78z, hc78, hr⟩ := hr
                have hFc := fr_all hD hS hA
                obtain ⟨i18, hi18⟩ := hW.o0 hk_a71
                refine va_calli (va_runV (As := [.int p0, .int y36_3, .int y55_4]) (rest := []) ⟨hx, hb, hml, hown, hts⟩ (m_X0_collide l dC dI kk ad29_9 H.size ws (va_up c29_G 233 d55_G233) c29_P c29_U (va_up c29_V 5 d55_V5) c29_X c29_O c29_kd c29_ln c29_cnt a71 p0 y36_3 y55_4 hk_a71 hW hT r78z hc78) (cwV 3 hts gc_RX11_X0_collide_219 rfl rfl rfl (by decide +kernel) ⟨Nat.le_of_ble_eq_true rfl, Nat.le_of_ble_eq_true rfl⟩) ⟨fun a U g mk q => by obtain ⟨q0, q1, qP, qK, qD⟩ := q; exact ⟨q0, q1, qP, va_K.moved (u := U) (U := U.calling g mk a) (Vm.Alike.refl U.vm) qK, qD⟩, va_recv hK hP (ci := 0) (q0 := i18) rfl hi18, fun U hU hW => ⟨rfl, by rw [hU], by rw [hU]; exact hP, va_K.moved hW.alike hK, hD.weaken (fun _ _ _ _ => trivial)⟩⟩ rfl rfl hl.1 rfl (lv_room (Nat.le_of_ble_eq_true rfl)) dX11_collisions_78 ⟨(by show _ ≤ uc; omega), (by show _ ≤ us; omega)⟩) hS (fun q _ h => hFc q h) hFc (fun r78 w19 t H1 locs ht hvm hw hB hz1 hk1 hS => ?_)
                obtain ⟨hw0, hW, hT⟩ := hw
                replace hw0 : r78 = r78z := hw0
                subst hw0
                obtain ⟨hP1, hK1, hD1⟩ := hB
                rw [ht] at hP1
                obtain ⟨hP, hD⟩ := jn_all (w1 := w19) hFc hP1 hD1
                replace hP : va_P (dC, dI) vwCl w19 H1 := hP
                replace hD : va_D A w19 := hD
                clear hFc hP1 hK1 hD1 hk1 hz1 ht hvm
                generalize H1 = H at hP hS ⊢
                replace hr := jnS hr
                obtain ⟨j99, hj99, hr⟩ := hr
                have Jj99 : ∀ (x99_2 : Int32) (c99_G233 : Nat → Int32) (c99_V5 : Nat → Nat → Int32) (ad29_9 : Nat → Nat) (ws : va_W) (H : Heap) (locs : List Loc) (ls : Array Slot) (cc cs u1 u2 : Nat), j99 x99_2 c99_G233 c99_V5 = some ((r, c_G, c_P, c_U, c_V, c_X, c_O, c_kd, c_ln, c_cnt), u1, u2) → cc + u1 = uc → cs + u2 = us → adEx kd ad c29_kd ad29_9 → LW ws ad29_9 kk c29_kd c29_ln (va_up c29_G 233 c99_G233) c29_P c29_U (va_up c29_V 5 c99_V5) c29_X c29_O → TYP c29_kd c29_P c29_O (c29_V 0) c29_cnt → va_P (dC, dI) vwCl ws H → va_D A ws → va_S A s.heap H locs → lv_has ls 5 [(0, .ref (ad29_9 this)), (1, .int p0), (2, .int x99_2), (3, .int y36_3), (4, .int y55_4)] → W p l e ({ frames := 49, cells := uc, slots := us, locals := 1273 } : Room) s m args below meth c H locs cc cs Q (F0 m 99 ls []) := by
                  intro x99_2 c99_G233 c99_V5 ad29_9 ws H locs ls cc cs u1 u2 hr hu1 hu2 hE hW hT hP hD hS hl
                  rw [hj99] at hr
                  refine lv_iinc (v := (y55_4 + 1)) (lv' := [(4, .int (y55_4 + 1)), (0, .ref (ad29_9 this)), (1, .int p0), (2, .int x99_2), (3, .int y36_3)]) hx hb dX11_collisions_99 hl (k := 4) rfl rfl (by decide) rfl (fun ls hl => ?_)
                  refine lv_goto (tgt := 55) hx hb dX11_collisions_102 (by decide) ?_
                  exact ih55 x99_2 (y55_4 + 1) c99_G233 c99_V5 ad29_9 ws H _ ls cc cs _ _ hr hu1 hu2 hE hW hT hP hD hS (lv_sub hl [1, 2, 3, 4, 0] rfl)
                refine lv_if_eq (tgt := 99) hx hb dX11_collisions_81 (by decide) (fun c81 => ?_) (fun c81 => ?_)
                · replace hr := iteT c81 hr
                  exact Jj99 y55_2 d55_G233 d55_V5 ad29_9 w19 H _ ls cc cs _ _ hr hu1 hu2 hE hW hT hP hD hS (lv_sub hl [0, 1, 2, 3, 4] rfl)
                · replace hr := iteF c81 hr
                  refine lv_aload_n hx hb dX11_collisions_84 rfl (lv_at hl 0 rfl) ?_
                  refine lv_sipush (v := 1000) hx hb dX11_collisions_85 (by decide +kernel) ?_
                  refine lv_iload_n hx hb dX11_collisions_88 rfl (lv_at hl 3 rfl) ?_
                  refine lv_imul hx hb dX11_collisions_89 ?_
                  refine lv_iload hx hb dX11_collisions_90 (lv_at hl 4 rfl) ?_
                  refine lv_iadd hx hb dX11_collisions_92 ?_
                  replace hr := b2S hr
                  obtain ⟨c93_G233, c93_V5, hc93, hr⟩ := hr
                  have hFc := fr_all hD hS hA
                  obtain ⟨i20, hi20⟩ := hW.o11 hk9_this
                  refine va_callv (va_runV (As := [.int ((1000 * y36_3) + y55_4)]) (rest := []) ⟨hx, hb, hml, hown, hts⟩ (m_X11_notePair l dC dI kk ad29_9 H.size w19 (va_up c29_G 233 d55_G233) c29_P c29_U (va_up c29_V 5 d55_V5) c29_X c29_O c29_kd c29_ln c29_cnt this ((1000 * y36_3) + y55_4) hk9_this hW hT c93_G233 c93_V5 hc93) (cwV 1 hts gc_RX11_X11_notePair_223 rfl rfl rfl (by decide +kernel) ⟨Nat.le_of_ble_eq_true rfl, Nat.le_of_ble_eq_true rfl⟩) ⟨fun a U g mk q => by obtain ⟨q0, q1, qP, qK, qD⟩ := q; exact ⟨q0, q1, qP, va_K.moved (u := U) (U := U.calling g mk a) (Vm.Alike.refl U.vm) qK, qD⟩, va_recv hK hP (ci := 11) (q0 := i20) rfl hi20, fun U hU hW => ⟨rfl, by rw [hU], by rw [hU]; exact hP, va_K.moved hW.alike hK, hD.weaken (fun _ _ _ _ => trivial)⟩⟩ rfl rfl hl.1 rfl (lv_room (Nat.le_of_ble_eq_true rfl)) dX11_collisions_93 ⟨(by show _ ≤ uc; omega), (by show _ ≤ us; omega)⟩) hS (fun q _ h => hFc q h) hFc (fun w21 t H1 locs ht hvm hw hB hz1 hk1 hS => ?_)
                  obtain ⟨hW, hT⟩ := hw
                  obtain ⟨hP1, hK1, hD1⟩ := hB
                  rw [ht] at hP1
                  obtain ⟨hP, hD⟩ := jn_all (w1 := w21) hFc hP1 hD1
                  replace hP : va_P (dC, dI) vwCl w21 H1 := hP
                  replace hD : va_D A w21 := hD
                  clear hFc hP1 hK1 hD1 hk1 hz1 ht hvm
                  generalize H1 = H at hP hS ⊢
                  refine lv_iinc (v := (y55_2 + 1)) (lv' := [(2, .int (y55_2 + 1)), (0, .ref (ad29_9 this)), (1, .int p0), (3, .int y36_3), (4, .int y55_4)]) hx hb dX11_collisions_96 hl (k := 2) rfl rfl (by decide) rfl (fun ls hl => ?_)
                  have eG : (va_up (va_up c29_G 233 d55_G233) 233 c93_G233) = (va_up c29_G 233 c93_G233) := by
                    funext k
                    by_cases h233 : k = 233
                    · subst h233; rfl
                    · simp only [va_up, h233, if_false]
                  rw [eG] at hW
                  clear eG
                  have eV : (va_up (va_up c29_V 5 d55_V5) 5 c93_V5) = (va_up c29_V 5 c93_V5) := by
                    funext k
                    by_cases h5 : k = 5
                    · subst h5; rfl
                    · simp only [va_up, h5, if_false]
                  rw [eV] at hW
                  clear eV
                  exact Jj99 (y55_2 + 1) c93_G233 c93_V5 ad29_9 w21 H _ ls cc cs _ _ hr hu1 hu2 hE hW hT hP hD hS (lv_sub hl [1, 2, 0, 3, 4] rfl)
          exact lp55 NN y36_2 x53 d36_G233 d36_V5 ad29_9 ws H _ ls cc cs _ _ hr hu1 hu2 hE hW hT hP hD hS (lv_sub hl [1, 2, 3, 4, 0] rfl)
    have eG : c29_G = (va_up c29_G 233 (c29_G 233)) := by
      funext k
      by_cases h233 : k = 233
      · subst h233; rfl
      · simp only [va_up, h233, if_false]
    rw [eG] at hW
    clear eG
    have eV : c29_V = (va_up c29_V 5 (c29_V 5)) := by
      funext k
      by_cases h5 : k = 5
      · subst h5; rfl
      · simp only [va_up, h5, if_false]
    rw [eV] at hW
    clear eV
    exact lp36 NN 0 0 (c29_G 233) (c29_V 5) ad29_9 w9 H _ ls ccn10 csn10 _ _ hr hu1 hu2 hE hW hT hP hD hS (lv_sub hl [2, 3, 1, 0] rfl)
  · replace hr := iteT c10 hr
    refine lv_bipush (v := (-2)) hx hb dX11_collisions_13 (by decide +kernel) ?_
    replace hr := retS hr
    obtain ⟨hr, hv1, hv2⟩ := hr
    refine W.widen (k := uc) (n := us) (by omega) (by omega) ?_
    exact K 15 ls _ _ _ _ _ _ _ _ _ _ ad w4 H _ hr dX11_collisions_15 hE hW hT hP hD hS
set_option maxHeartbeats 4000000 in
set_option maxRecDepth 100000 in
theorem m_X11_collisions (l : Launch) (dC : Nat → ClassId) (dI : Nat → Nat → Nat) (kk : Nat → ClassId) (ad : Nat → Nat) (sz : Nat) (ws : va_W) (G : Nat → Nat → Int32) (P : Nat → Nat → Option Nat) (U : Nat → Nat → Int64) (V : Nat → Nat → Nat → Int32) (X : Nat → Nat → Nat → Int64) (O : Nat → Nat → Nat → Option Nat) (kd : Nat → Nat) (ln : Nat → Nat) (cnt : Nat) (this : Nat) (p0 : Int32) (hk_this : kd this = 12) (hW : LW ws ad kk kd ln G P U V X O) (hT : TYP kd P O (V 0) cnt) (r : Int32) (c_G : Nat → Nat → Int32) (c_P : Nat → Nat → Option Nat) (c_U : Nat → Nat → Int64) (c_V : Nat → Nat → Nat → Int32) (c_X : Nat → Nat → Nat → Int64) (c_O : Nat → Nat → Nat → Option Nat) (c_kd : Nat → Nat) (c_ln : Nat → Nat) (c_cnt : Nat) (uc us : Nat) (hr : f_X11_collisions G P U V X O kd ln cnt this p0 = some ((r, c_G, c_P, c_U, c_V, c_X, c_O, c_kd, c_ln, c_cnt), uc, us)) : Met l yX11_collisions vmX11_collisions ({ frames := 49, cells := uc, slots := us, locals := 1273 } : Room) (va_Pc [.ref (ad this), .int p0] (fun U => U.heap.size = sz ∧ va_P (dC, dI) vwCl ws U.heap ∧ va_K (dC, dI) vwCl (cT kk) U ∧ va_D (fun _ => True) ws)) (va_Qi (fun (rz : Int32) (x : (va_W × (Nat → Nat))) => rz = r ∧ LW x.1 x.2 kk c_kd c_ln c_G c_P c_U c_V c_X c_O ∧ TYP c_kd c_P c_O (c_V 0) c_cnt ∧ adEx kd ad c_kd x.2) (fun x t => va_P (dC, dI) vwCl x.1 t.heap ∧ va_K (dC, dI) vwCl (cT kk) t ∧ va_D (va_A ws sz) x.1) (va_A ws sz)) uc us (va_A ws sz) := by
  refine Met.ofW (cc := cX11_collisions) (maxL := 5) (ret := (some .int)) (by decide) rfl ?_
  intro p e s m args below meth c s₁ B hml hv
  obtain ⟨rfl, hsz, hP, hK, hD0⟩ := hv
  have hx := B.exec
  have hb := B.bytes
  have hrt := B.returns
  have hts := atoms_spec (ws := vmX11_collisions) B.pre
  have hown : s.vm.findClass RX11 = some m.cls := findClass_of_methodNamed B.named
  subst hsz
  have hD := hD0.self (sz := s.heap.size)
  generalize hAe : va_A ws s.heap.size = A at hD ⊢
  have hA : ∀ q : Nat, s.heap.size ≤ q → A q := fun q h => by rw [← hAe]; exact Or.inr h
  have hS : va_S A s.heap s.heap [] := va_S.rf
  have hl := lv_entry ([.ref (ad this), .int p0]) (n := 5) (Nat.le_of_ble_eq_true rfl)
  rw [lg_entry_eq]
  generalize (lg_sl ([.ref (ad this), .int p0]) ++ List.replicate (5 - (lg_sl ([.ref (ad this), .int p0])).length) Slot.unset).toArray = ls at hl ⊢
  exact bm_X11_collisions this p0 hk_this r c_G c_P c_U c_V c_X c_O c_kd c_ln c_cnt uc us hr hx hb hml hown hts hA hK hW hT hP hD hS hl (fun pc ls rz c_Gz c_Pz c_Uz c_Vz c_Xz c_Oz c_kdz c_lnz c_cntz adz ws H locs he hd hE hW hT hP hD hS => by cases he; exact W.iret (v := r) hx hb hrt (fun t ht hW9 => ⟨⟨r, (ws, adz), rfl, ⟨rfl, hW, hT, hE⟩, by rw [ht]; exact hP, va_K.moved hW9.alike hK, hD⟩, hS.F ht⟩) hS.2.2 hd)
set_option maxHeartbeats 4000000 in
set_option maxRecDepth 100000 in
theorem bm_X11_rhymes {p : Program} {l : Launch} {e : Env} {s : State} {m : MethodId} {args : Array Value} {below : List Frame} {meth : Method} {c : Code} {Q : State → Prop} {A : Nat → Prop} {dC : Nat → ClassId} {dI : Nat → Nat → Nat} {kk : Nat → ClassId} {ad : Nat → Nat} {ws : va_W} {G : Nat → Nat → Int32} {P : Nat → Nat → Option Nat} {U : Nat → Nat → Int64} {V : Nat → Nat → Nat → Int32} {X : Nat → Nat → Nat → Int64} {O : Nat → Nat → Nat → Option Nat} {kd : Nat → Nat} {ln : Nat → Nat} {cnt : Nat} {H : Heap} {locs : List Loc} {ls : Array Slot} (this : Nat) (p0 : Int32) (hk_this : kd this = 12) (r : Int32) (c_G : Nat → Nat → Int32) (c_P : Nat → Nat → Option Nat) (c_U : Nat → Nat → Int64) (c_V : Nat → Nat → Nat → Int32) (c_X : Nat → Nat → Nat → Int64) (c_O : Nat → Nat → Nat → Option Nat) (c_kd : Nat → Nat) (c_ln : Nat → Nat) (c_cnt : Nat) (uc us : Nat) (hr : f_X11_rhymes G P U V X O kd ln cnt this p0 = some ((r, c_G, c_P, c_U, c_V, c_X, c_O, c_kd, c_ln, c_cnt), uc, us)) (hx : p.tables.exec = Jvm.exec) (hb : c.code = cX11_rhymes) (hml : c.maxLocals = 5) (hown : s.vm.findClass RX11 = some m.cls) (hts : ∀ w ∈ vmX11_rhymes, w.before args s = true) (hA : ∀ q : Nat, s.heap.size ≤ q → A q) (hK : va_K (dC, dI) vwCl (cT kk) s) (hW : LW ws ad kk kd ln G P U V X O) (hT : TYP kd P O (V 0) cnt) (hP : va_P (dC, dI) vwCl ws H) (hD : va_D A ws) (hS : va_S A s.heap H locs) (hl : lv_has ls 5 [(0, .ref (ad this)), (1, .int p0)])
    (K : ∀ (pc : Nat) (ls : Array Slot) (rz : Int32) (c_Gz : Nat → Nat → Int32) (c_Pz : Nat → Nat → Option Nat) (c_Uz : Nat → Nat → Int64) (c_Vz : Nat → Nat → Nat → Int32) (c_Xz : Nat → Nat → Nat → Int64) (c_Oz : Nat → Nat → Nat → Option Nat) (c_kdz : Nat → Nat) (c_lnz : Nat → Nat) (c_cntz : Nat) (adz : Nat → Nat) (ws : va_W) (H : Heap) (locs : List Loc), some (rz, c_Gz, c_Pz, c_Uz, c_Vz, c_Xz, c_Oz, c_kdz, c_lnz, c_cntz) = some (r, c_G, c_P, c_U, c_V, c_X, c_O, c_kd, c_ln, c_cnt) → decode cX11_rhymes pc = .ok (.ireturn, 1) → adEx kd ad c_kdz adz → LW ws adz kk c_kdz c_lnz c_Gz c_Pz c_Uz c_Vz c_Xz c_Oz → TYP c_kdz c_Pz c_Oz (c_Vz 0) c_cntz → va_P (dC, dI) vwCl ws H → va_D A ws → va_S A s.heap H locs → W p l e ({ frames := 49, cells := uc, slots := us, locals := 1273 } : Room) s m args below meth c H locs uc us Q (F0 m pc ls [.int rz])) : W p l e ({ frames := 49, cells := uc, slots := us, locals := 1273 } : Room) s m args below meth c H locs 0 0 Q (F0 m 0 ls []) := by
  have hu1 : 0 + uc = uc := Nat.zero_add _
  have hu2 : 0 + us = us := Nat.zero_add _
  have hE : adEx kd ad kd ad := ⟨fun _ _ => rfl, fun _ _ => rfl⟩
  unfold f_X11_rhymes at hr
  refine lv_aload_n hx hb dX11_rhymes_0 rfl (lv_at hl 0 rfl) ?_
  refine lv_iload_n hx hb dX11_rhymes_1 rfl (lv_at hl 1 rfl) ?_
  replace hr := b1S hr
  obtain ⟨r2z, hc2, hr⟩ := hr
  have hFc := fr_all hD hS hA
  obtain ⟨i1, hi1⟩ := hW.o11 hk_this
  refine va_calli (va_runV (As := [.int p0]) (rest := []) ⟨hx, hb, hml, hown, hts⟩ (m_X11_isStage l dC dI kk ad H.size ws G P U V X O kd ln cnt this p0 hk_this hW hT r2z hc2) (cwV 1 hts gc_RX11_X11_isStage_208 rfl rfl rfl (by decide +kernel) ⟨Nat.le_of_ble_eq_true rfl, Nat.le_of_ble_eq_true rfl⟩) ⟨fun a U g mk q => by obtain ⟨q0, q1, qP, qK, qD⟩ := q; exact ⟨q0, q1, qP, va_K.moved (u := U) (U := U.calling g mk a) (Vm.Alike.refl U.vm) qK, qD⟩, va_recv hK hP (ci := 11) (q0 := i1) rfl hi1, fun U hU hW => ⟨rfl, by rw [hU], by rw [hU]; exact hP, va_K.moved hW.alike hK, hD.weaken (fun _ _ _ _ => trivial)⟩⟩ rfl rfl hl.1 rfl (lv_room (Nat.le_of_ble_eq_true rfl)) dX11_rhymes_2 ⟨(by show _ ≤ uc; omega), (by show _ ≤ us; omega)⟩) hS (fun q _ h => hFc q h) hFc (fun r2 w2 t H1 locs ht hvm hw hB hz1 hk1 hS => ?_)
  obtain ⟨hw0, hW, hT⟩ := hw
  replace hw0 : r2 = r2z := hw0
  subst hw0
  obtain ⟨hP1, hK1, hD1⟩ := hB
  rw [ht] at hP1
  obtain ⟨hP, hD⟩ := jn_all (w1 := w2) hFc hP1 hD1
  replace hP : va_P (dC, dI) vwCl w2 H1 := hP
  replace hD : va_D A w2 := hD
  clear hFc hP1 hK1 hD1 hk1 hz1 ht hvm
  generalize H1 = H at hP hS ⊢
  refine lv_if_ne (tgt := 11) hx hb dX11_rhymes_5 (by decide) (fun c5 => ?_) (fun c5 => ?_)
  · replace hr := iteF c5 hr
    refine lv_aload_n hx hb dX11_rhymes_11 rfl (lv_at hl 0 rfl) ?_
    obtain ⟨i3, hi3⟩ := hW.o11 hk_this
    replace hr := nnS hr
    obtain ⟨a12, hn12, hr⟩ := hr
    have hk_a12 : kd a12 = 1 := hT.1 229 _ _ hn12
    refine va_get (D := (dC, dI)) (ci := 11) (v := .ref (ad a12)) (C := RX11) (T := TX11) (N := 17) hx hb hts inX11 hown hK hP i3 hi3 rfl 9 (by decide) (hts (.fieldLink RX11 67 "SpellTurner" "book" "LSpellTurner$Book;") ic_106) (fun _ h9 => h9) (congrArg (fun o => some (va_re ad o)) hn12) dX11_rhymes_12 ?_
    refine lv_iload_n hx hb dX11_rhymes_15 rfl (lv_at hl 1 rfl) ?_
    refine lv_aload_n hx hb dX11_rhymes_16 rfl (lv_at hl 0 rfl) ?_
    obtain ⟨i4, hi4⟩ := hW.o11 hk_this
    replace hr := nnS hr
    obtain ⟨a17, hn17, hr⟩ := hr
    have hk_a17 : kd a17 = 302 := hT.1 221 _ _ hn17
    refine va_get (D := (dC, dI)) (ci := 11) (v := .ref (ad a17)) (C := RX11) (T := TX11) (N := 17) hx hb hts inX11 hown hK hP i4 hi4 rfl 1 (by decide) (hts (.fieldLink RX11 18 "SpellTurner" "reforms" "[LSpellTurner$Reform;") ic_56) (fun _ h9 => h9) (congrArg (fun o => some (va_re ad o)) hn17) dX11_rhymes_17 ?_
    refine lv_aload_n hx hb dX11_rhymes_20 rfl (lv_at hl 0 rfl) ?_
    obtain ⟨i5, hi5⟩ := hW.o11 hk_this
    replace hr := nnS hr
    obtain ⟨a21, hn21, hr⟩ := hr
    have hk_a21 : kd a21 = 10 := hT.1 226 _ _ hn21
    refine va_get (D := (dC, dI)) (ci := 11) (v := .ref (ad a21)) (C := RX11) (T := TX11) (N := 17) hx hb hts inX11 hown hK hP i5 hi5 rfl 6 (by decide) (hts (.fieldLink RX11 44 "SpellTurner" "turner" "LSpellTurner$Turner;") ic_340) (fun _ h9 => h9) (congrArg (fun o => some (va_re ad o)) hn21) dX11_rhymes_21 ?_
    replace hr := bA9S hr
    obtain ⟨c24_G, c24_P, c24_U, c24_V, c24_X, c24_O, c24_kd, c24_ln, c24_cnt, zv1, zv2, zw1, zw2, hc24, hr, hq1, hq2⟩ := hr
    have hFc := fr_all hD hS hA
    obtain ⟨i6, hi6⟩ := hW.o0 hk_a12
    refine va_callv (va_runV (As := [.int p0, .ref (ad a17), .ref (ad a21)]) (rest := []) ⟨hx, hb, hml, hown, hts⟩ (m_X0_fill l dC dI kk ad H.size w2 G P U V X O kd ln cnt a12 p0 a17 a21 hk_a12 hk_a17 hk_a21 hW hT c24_G c24_P c24_U c24_V c24_X c24_O c24_kd c24_ln c24_cnt zv1 zv2 hc24) (cwV 3 hts gc_RX11_X0_fill_211 rfl rfl rfl (by decide +kernel) ⟨Nat.le_of_ble_eq_true rfl, Nat.le_of_ble_eq_true rfl⟩) ⟨fun a U g mk q => by obtain ⟨q0, q1, qP, qK, qD⟩ := q; exact ⟨q0, q1, qP, va_K.moved (u := U) (U := U.calling g mk a) (Vm.Alike.refl U.vm) qK, qD⟩, va_recv hK hP (ci := 0) (q0 := i6) rfl hi6, fun U hU hW => ⟨rfl, by rw [hU], by rw [hU]; exact hP, va_K.moved hW.alike hK, hD.weaken (fun _ _ _ _ => trivial)⟩⟩ rfl rfl hl.1 rfl (lv_room (Nat.le_of_ble_eq_true rfl)) dX11_rhymes_24 ⟨(by show _ ≤ uc; omega), (by show _ ≤ us; omega)⟩) hS (fun q _ h => hFc q h) hFc (fun w7 t H1 locs ht hvm hw hB hz1 hk1 hS => ?_)
    obtain ⟨w7, ad24_7⟩ := w7
    dsimp only at hw hB
    obtain ⟨hW, hT, hE2⟩ := hw
    obtain ⟨hP1, hK1, hD1⟩ := hB
    rw [ht] at hP1
    obtain ⟨hP, hD⟩ := jn_all (w1 := w7) hFc hP1 hD1
    replace hP : va_P (dC, dI) vwCl w7 H1 := hP
    replace hD : va_D A w7 := hD
    clear hFc hP1 hK1 hD1 hk1 hz1 ht hvm
    generalize H1 = H at hP hS ⊢
    have ea_this : ad this = ad24_7 this := (hE2.1 this (by rw [hk_this]; decide)).symm
    have hk7_this := (hE2.2 this (by rw [hk_this]; decide)).trans hk_this
    rw [ea_this] at hl
    clear ea_this
    replace hE := adE hE hE2
    clear hE2
    obtain ⟨ccn8, eccn8⟩ : ∃ y : Nat, y = (0 + zv1) := ⟨_, rfl⟩
    obtain ⟨csn8, ecsn8⟩ : ∃ y : Nat, y = (0 + zv2) := ⟨_, rfl⟩
    refine W.widen (k := ccn8) (n := csn8) (Nat.le_of_eq eccn8.symm) (Nat.le_of_eq ecsn8.symm) ?_
    replace hu1 : ccn8 + zw1 = uc := by omega
    replace hu2 : csn8 + zw2 = us := by omega
    clear eccn8 ecsn8
    refine lv_iconst (v := 0) hx hb dX11_rhymes_27 (by decide +kernel) ?_
    refine lv_istore_n (lv' := [(2, .int 0), (0, .ref (ad24_7 this)), (1, .int p0)]) hx hb dX11_rhymes_28 rfl hl (by decide) rfl (fun ls hl => ?_)
    refine lv_iconst (v := 0) hx hb dX11_rhymes_29 (by decide +kernel) ?_
    refine lv_istore_n (lv' := [(3, .int 0), (2, .int 0), (0, .ref (ad24_7 this)), (1, .int p0)]) hx hb dX11_rhymes_30 rfl hl (by decide) rfl (fun ls hl => ?_)
    have lp31 : ∀ (n31 : Nat), ∀ (y31_2 : Int32) (y31_3 : Int32) (ad24_7 : Nat → Nat) (ws : va_W) (H : Heap) (locs : List Loc) (ls : Array Slot) (cc cs u1 u2 : Nat), L_X11_rhymes_31 this p0 c24_G c24_P c24_U c24_V c24_X c24_O c24_kd c24_ln c24_cnt n31 y31_2 y31_3 = some ((r, c_G, c_P, c_U, c_V, c_X, c_O, c_kd, c_ln, c_cnt), u1, u2) → cc + u1 = uc → cs + u2 = us → adEx kd ad c24_kd ad24_7 → LW ws ad24_7 kk c24_kd c24_ln c24_G c24_P c24_U c24_V c24_X c24_O → TYP c24_kd c24_P c24_O (c24_V 0) c24_cnt → va_P (dC, dI) vwCl ws H → va_D A ws → va_S A s.heap H locs → lv_has ls 5 [(0, .ref (ad24_7 this)), (1, .int p0), (2, .int y31_2), (3, .int y31_3)] → W p l e ({ frames := 49, cells := uc, slots := us, locals := 1273 } : Room) s m args below meth c H locs cc cs Q (F0 m 31 ls []) := by
      intro n31
      induction n31 with
      | zero => intro y31_2 y31_3 ad24_7 ws H locs ls cc cs u1 u2 hr hu1 hu2 hE hW hT hP hD hS hl; exact nomatch (show none = some ((r, c_G, c_P, c_U, c_V, c_X, c_O, c_kd, c_ln, c_cnt), u1, u2) from hr)
      | succ n31 ih31 =>
        intro y31_2 y31_3 ad24_7 ws H locs ls cc cs u1 u2 hr hu1 hu2 hE hW hT hP hD hS hl
        replace hr : B_X11_rhymes_31 this p0 c24_G c24_P c24_U c24_V c24_X c24_O c24_kd c24_ln c24_cnt (L_X11_rhymes_31 this p0 c24_G c24_P c24_U c24_V c24_X c24_O c24_kd c24_ln c24_cnt n31) y31_2 y31_3 = some ((r, c_G, c_P, c_U, c_V, c_X, c_O, c_kd, c_ln, c_cnt), u1, u2) := hr
        unfold B_X11_rhymes_31 at hr
        refine lv_iload_n hx hb dX11_rhymes_31 rfl (lv_at hl 3 rfl) ?_
        refine lv_aload_n hx hb dX11_rhymes_32 rfl (lv_at hl 0 rfl) ?_
        obtain ⟨i9, hi9⟩ := hW.o11 hk7_this
        replace hr := nnS hr
        obtain ⟨a33, hn33, hr⟩ := hr
        have hk_a33 : c24_kd a33 = 1 := hT.1 229 _ _ hn33
        refine va_get (D := (dC, dI)) (ci := 11) (v := .ref (ad24_7 a33)) (C := RX11) (T := TX11) (N := 17) hx hb hts inX11 hown hK hP i9 hi9 rfl 9 (by decide) (hts (.fieldLink RX11 67 "SpellTurner" "book" "LSpellTurner$Book;") ic_106) (fun _ h9 => h9) (congrArg (fun o => some (va_re ad24_7 o)) hn33) dX11_rhymes_33 ?_
        obtain ⟨i10, hi10⟩ := hW.o0 hk_a33
        replace hr := nnS hr
        obtain ⟨a36, hn36, hr⟩ := hr
        have hk_a36 : c24_kd a36 = 11 := hT.1 0 _ _ hn36
        refine va_get (D := (dC, dI)) (ci := 0) (v := .ref (ad24_7 a36)) (C := RX0) (T := TX0) (N := 6) hx hb hts inX0 hown hK hP i10 hi10 rfl 0 (by decide) (hts (.fieldLink RX11 197 "SpellTurner$Book" "words" "LSpellTurner$WordRow;") ic_124) (fun _ h9 => h9) (congrArg (fun o => some (va_re ad24_7 o)) hn36) dX11_rhymes_36 ?_
        obtain ⟨i11, hi11⟩ := hW.o10 hk_a36
        refine va_get (D := (dC, dI)) (ci := 10) (v := .int ((c24_G 203) a36)) (C := RX10) (T := TX10) (N := 4) hx hb hts inX10 hown hK hP i11 hi11 rfl 3 (by decide) (hts (.fieldLink RX11 151 "SpellTurner$WordRow" "count" "I") ic_67) (fun _ h9 => h9) rfl dX11_rhymes_39 ?_
        refine lv_icmp_ge (tgt := 117) hx hb dX11_rhymes_42 (by decide) (fun c42 => ?_) (fun c42 => ?_)
        · replace hr := iteT c42 hr
          refine lv_iload_n hx hb dX11_rhymes_117 rfl (lv_at hl 2 rfl) ?_
          replace hr := retS hr
          obtain ⟨hr, hv1, hv2⟩ := hr
          refine W.widen (k := uc) (n := us) (by omega) (by omega) ?_
          exact K 118 ls _ _ _ _ _ _ _ _ _ _ ad24_7 ws H _ hr dX11_rhymes_118 hE hW hT hP hD hS
        · replace hr := iteF c42 hr
          refine lv_iload_n hx hb dX11_rhymes_45 rfl (lv_at hl 3 rfl) ?_
          refine lv_iconst (v := 1) hx hb dX11_rhymes_46 (by decide +kernel) ?_
          refine lv_iadd hx hb dX11_rhymes_47 ?_
          refine lv_topi (fun x48 ex48 => ?_)
          replace hr := vlS hr x48 ex48
          clear ex48
          refine lv_istore (lv' := [(4, .int x48), (0, .ref (ad24_7 this)), (1, .int p0), (2, .int y31_2), (3, .int y31_3)]) hx hb dX11_rhymes_48 hl (by decide) rfl (fun ls hl => ?_)
          replace hr := jnS hr
          obtain ⟨k111, hk111, hr⟩ := hr
          have Jk111 : ∀ (x111_2 : Int32) (ad24_7 : Nat → Nat) (ws : va_W) (H : Heap) (locs : List Loc) (ls : Array Slot) (cc cs u1 u2 : Nat), k111 x111_2 = some ((r, c_G, c_P, c_U, c_V, c_X, c_O, c_kd, c_ln, c_cnt), u1, u2) → cc + u1 = uc → cs + u2 = us → adEx kd ad c24_kd ad24_7 → LW ws ad24_7 kk c24_kd c24_ln c24_G c24_P c24_U c24_V c24_X c24_O → TYP c24_kd c24_P c24_O (c24_V 0) c24_cnt → va_P (dC, dI) vwCl ws H → va_D A ws → va_S A s.heap H locs → lv_has ls 5 [(0, .ref (ad24_7 this)), (1, .int p0), (2, .int x111_2), (3, .int y31_3)] → W p l e ({ frames := 49, cells := uc, slots := us, locals := 1273 } : Room) s m args below meth c H locs cc cs Q (F0 m 111 ls []) := by
            intro x111_2 ad24_7 ws H locs ls cc cs u1 u2 hr hu1 hu2 hE hW hT hP hD hS hl
            rw [hk111] at hr
            refine lv_iinc (v := (y31_3 + 1)) (lv' := [(3, .int (y31_3 + 1)), (0, .ref (ad24_7 this)), (1, .int p0), (2, .int x111_2)]) hx hb dX11_rhymes_111 hl (k := 3) rfl rfl (by decide) rfl (fun ls hl => ?_)
            refine lv_goto (tgt := 31) hx hb dX11_rhymes_114 (by decide) ?_
            exact ih31 x111_2 (y31_3 + 1) ad24_7 ws H _ ls cc cs _ _ hr hu1 hu2 hE hW hT hP hD hS (lv_sub hl [1, 2, 3, 0] rfl)
          have lp50 : ∀ (n50 : Nat), ∀ (y50_2 : Int32) (y50_4 : Int32) (ad24_7 : Nat → Nat) (ws : va_W) (H : Heap) (locs : List Loc) (ls : Array Slot) (cc cs u1 u2 : Nat), L_X11_rhymes_50 this p0 c24_G c24_P c24_U c24_V c24_X c24_O c24_kd c24_ln c24_cnt y31_3 k111 n50 y50_2 y50_4 = some ((r, c_G, c_P, c_U, c_V, c_X, c_O, c_kd, c_ln, c_cnt), u1, u2) → cc + u1 = uc → cs + u2 = us → adEx kd ad c24_kd ad24_7 → LW ws ad24_7 kk c24_kd c24_ln c24_G c24_P c24_U c24_V c24_X c24_O → TYP c24_kd c24_P c24_O (c24_V 0) c24_cnt → va_P (dC, dI) vwCl ws H → va_D A ws → va_S A s.heap H locs → lv_has ls 5 [(0, .ref (ad24_7 this)), (1, .int p0), (2, .int y50_2), (3, .int y31_3), (4, .int y50_4)] → W p l e ({ frames := 49, cells := uc, slots := us, locals := 1273 } : Room) s m args below meth c H locs cc cs Q (F0 m 50 ls []) := by
            intro n50
            induction n50 with
            | zero => intro y50_2 y50_4 ad24_7 ws H locs ls cc cs u1 u2 hr hu1 hu2 hE hW hT hP hD hS hl; exact nomatch (show none = some ((r, c_G, c_P, c_U, c_V, c_X, c_O, c_kd, c_ln, c_cnt), u1, u2) from hr)
            | succ n50 ih50 =>
              intro y50_2 y50_4 ad24_7 ws H locs ls cc cs u1 u2 hr hu1 hu2 hE hW hT hP hD hS hl
              replace hr : B_X11_rhymes_50 this p0 c24_G c24_P c24_U c24_V c24_X c24_O c24_kd c24_ln c24_cnt y31_3 k111 (L_X11_rhymes_50 this p0 c24_G c24_P c24_U c24_V c24_X c24_O c24_kd c24_ln c24_cnt y31_3 k111 n50) y50_2 y50_4 = some ((r, c_G, c_P, c_U, c_V, c_X, c_O, c_kd, c_ln, c_cnt), u1, u2) := hr
              unfold B_X11_rhymes_50 at hr
              refine lv_iload hx hb dX11_rhymes_50 (lv_at hl 4 rfl) ?_
              refine lv_aload_n hx hb dX11_rhymes_52 rfl (lv_at hl 0 rfl) ?_
              obtain ⟨i12, hi12⟩ := hW.o11 hk7_this
              replace hr := nnS hr
              obtain ⟨a53, hn53, hr⟩ := hr
              have hk_a53 : c24_kd a53 = 1 := hT.1 229 _ _ hn53
              refine va_get (D := (dC, dI)) (ci := 11) (v := .ref (ad24_7 a53)) (C := RX11) (T := TX11) (N := 17) hx hb hts inX11 hown hK hP i12 hi12 rfl 9 (by decide) (hts (.fieldLink RX11 67 "SpellTurner" "book" "LSpellTurner$Book;") ic_106) (fun _ h9 => h9) (congrArg (fun o => some (va_re ad24_7 o)) hn53) dX11_rhymes_53 ?_
              obtain ⟨i13, hi13⟩ := hW.o0 hk_a53
              replace hr := nnS hr
              obtain ⟨a56, hn56, hr⟩ := hr
              have hk_a56 : c24_kd a56 = 11 := hT.1 0 _ _ hn56
              refine va_get (D := (dC, dI)) (ci := 0) (v := .ref (ad24_7 a56)) (C := RX0) (T := TX0) (N := 6) hx hb hts inX0 hown hK hP i13 hi13 rfl 0 (by decide) (hts (.fieldLink RX11 197 "SpellTurner$Book" "words" "LSpellTurner$WordRow;") ic_124) (fun _ h9 => h9) (congrArg (fun o => some (va_re ad24_7 o)) hn56) dX11_rhymes_56 ?_
              obtain ⟨i14, hi14⟩ := hW.o10 hk_a56
              refine va_get (D := (dC, dI)) (ci := 10) (v := .int ((c24_G 203) a56)) (C := RX10) (T := TX10) (N := 4) hx hb hts inX10 hown hK hP i14 hi14 rfl 3 (by decide) (hts (.fieldLink RX11 151 "SpellTurner$WordRow" "count" "I") ic_67) (fun _ h9 => h9) rfl dX11_rhymes_59 ?_
              refine lv_icmp_ge (tgt := 111) hx hb dX11_rhymes_62 (by decide) (fun c62 => ?_) (fun c62 => ?_)
              · replace hr := iteT c62 hr
                exact Jk111 y50_2 ad24_7 ws H _ ls cc cs _ _ hr hu1 hu2 hE hW hT hP hD hS (lv_sub hl [0, 1, 2, 3] rfl)
              · replace hr := iteF c62 hr
                refine lv_aload_n hx hb dX11_rhymes_65 rfl (lv_at hl 0 rfl) ?_
                obtain ⟨i15, hi15⟩ := hW.o11 hk7_this
                replace hr := nnS hr
                obtain ⟨a66, hn66, hr⟩ := hr
                have hk_a66 : c24_kd a66 = 1 := hT.1 229 _ _ hn66
                refine va_get (D := (dC, dI)) (ci := 11) (v := .ref (ad24_7 a66)) (C := RX11) (T := TX11) (N := 17) hx hb hts inX11 hown hK hP i15 hi15 rfl 9 (by decide) (hts (.fieldLink RX11 67 "SpellTurner" "book" "LSpellTurner$Book;") ic_106) (fun _ h9 => h9) (congrArg (fun o => some (va_re ad24_7 o)) hn66) dX11_rhymes_66 ?_
                obtain ⟨i16, hi16⟩ := hW.o0 hk_a66
                replace hr := nnS hr
                obtain ⟨a69, hn69, hr⟩ := hr
                have hk_a69 : c24_kd a69 = 11 := hT.1 0 _ _ hn69
                refine va_get (D := (dC, dI)) (ci := 0) (v := .ref (ad24_7 a69)) (C := RX0) (T := TX0) (N := 6) hx hb hts inX0 hown hK hP i16 hi16 rfl 0 (by decide) (hts (.fieldLink RX11 197 "SpellTurner$Book" "words" "LSpellTurner$WordRow;") ic_124) (fun _ h9 => h9) (congrArg (fun o => some (va_re ad24_7 o)) hn69) dX11_rhymes_69 ?_
                refine lv_iload_n hx hb dX11_rhymes_72 rfl (lv_at hl 3 rfl) ?_
                refine lv_aload_n hx hb dX11_rhymes_73 rfl (lv_at hl 0 rfl) ?_
                obtain ⟨i17, hi17⟩ := hW.o11 hk7_this
                replace hr := nnS hr
                obtain ⟨a74, hn74, hr⟩ := hr
                have hk_a74 : c24_kd a74 = 1 := hT.1 229 _ _ hn74
                refine va_get (D := (dC, dI)) (ci := 11) (v := .ref (ad24_7 a74)) (C := RX11) (T := TX11) (N := 17) hx hb hts inX11 hown hK hP i17 hi17 rfl 9 (by decide) (hts (.fieldLink RX11 67 "SpellTurner" "book" "LSpellTurner$Book;") ic_106) (fun _ h9 => h9) (congrArg (fun o => some (va_re ad24_7 o)) hn74) dX11_rhymes_74 ?_
                obtain ⟨i18, hi18⟩ := hW.o0 hk_a74
                replace hr := nnS hr
                obtain ⟨a77, hn77, hr⟩ := hr
                have hk_a77 : c24_kd a77 = 11 := hT.1 0 _ _ hn77
                refine va_get (D := (dC, dI)) (ci := 0) (v := .ref (ad24_7 a77)) (C := RX0) (T := TX0) (N := 6) hx hb hts inX0 hown hK hP i18 hi18 rfl 0 (by decide) (hts (.fieldLink RX11 197 "SpellTurner$Book" "words" "LSpellTurner$WordRow;") ic_124) (fun _ h9 => h9) (congrArg (fun o => some (va_re ad24_7 o)) hn77) dX11_rhymes_77 ?_
                refine lv_iload hx hb dX11_rhymes_80 (lv_at hl 4 rfl) ?_
                replace hr := b1S hr
                obtain ⟨r82z, hc82, hr⟩ := hr
                have hFc := fr_all hD hS hA
                obtain ⟨i19, hi19⟩ := hW.o10 hk_a69
                refine va_calli (va_runV (As := [.int y31_3, .ref (ad24_7 a77), .int y50_4]) (rest := []) ⟨hx, hb, hml, hown, hts⟩ (m_X10_endsAlike l dC dI kk ad24_7 H.size ws c24_G c24_P c24_U c24_V c24_X c24_O c24_kd c24_ln c24_cnt a69 y31_3 a77 y50_4 hk_a69 hk_a77 hW hT r82z hc82) (cwV 3 hts gc_RX11_X10_endsAlike_226 rfl rfl rfl (by decide +kernel) ⟨Nat.le_of_ble_eq_true rfl, Nat.le_of_ble_eq_true rfl⟩) ⟨fun a U g mk q => by obtain ⟨q0, q1, qP, qK, qD⟩ := q; exact ⟨q0, q1, qP, va_K.moved (u := U) (U := U.calling g mk a) (Vm.Alike.refl U.vm) qK, qD⟩, va_recv hK hP (ci := 10) (q0 := i19) rfl hi19, fun U hU hW => ⟨rfl, by rw [hU], by rw [hU]; exact hP, va_K.moved hW.alike hK, hD.weaken (fun _ _ _ _ => trivial)⟩⟩ rfl rfl hl.1 rfl (lv_room (Nat.le_of_ble_eq_true rfl)) dX11_rhymes_82 ⟨(by show _ ≤ uc; omega), (by show _ ≤ us; omega)⟩) hS (fun q _ h => hFc q h) hFc (fun r82 w20 t H1 locs ht hvm hw hB hz1 hk1 hS => ?_)
                obtain ⟨hw0, hW, hT⟩ := hw
                replace hw0 : r82 = r82z := hw0
                subst hw0
                obtain ⟨hP1, hK1, hD1⟩ := hB
                rw [ht] at hP1
                obtain ⟨hP, hD⟩ := jn_all (w1 := w20) hFc hP1 hD1
                replace hP : va_P (dC, dI) vwCl w20 H1 := hP
                replace hD : va_D A w20 := hD
                clear hFc hP1 hK1 hD1 hk1 hz1 ht hvm
                generalize H1 = H at hP hS ⊢
                replace hr := jnS hr
                obtain ⟨j105, hj105, hr⟩ := hr
                have Jj105 : ∀ (x105_2 : Int32) (ad24_7 : Nat → Nat) (ws : va_W) (H : Heap) (locs : List Loc) (ls : Array Slot) (cc cs u1 u2 : Nat), j105 x105_2 = some ((r, c_G, c_P, c_U, c_V, c_X, c_O, c_kd, c_ln, c_cnt), u1, u2) → cc + u1 = uc → cs + u2 = us → adEx kd ad c24_kd ad24_7 → LW ws ad24_7 kk c24_kd c24_ln c24_G c24_P c24_U c24_V c24_X c24_O → TYP c24_kd c24_P c24_O (c24_V 0) c24_cnt → va_P (dC, dI) vwCl ws H → va_D A ws → va_S A s.heap H locs → lv_has ls 5 [(0, .ref (ad24_7 this)), (1, .int p0), (2, .int x105_2), (3, .int y31_3), (4, .int y50_4)] → W p l e ({ frames := 49, cells := uc, slots := us, locals := 1273 } : Room) s m args below meth c H locs cc cs Q (F0 m 105 ls []) := by
                  intro x105_2 ad24_7 ws H locs ls cc cs u1 u2 hr hu1 hu2 hE hW hT hP hD hS hl
                  rw [hj105] at hr
                  refine lv_iinc (v := (y50_4 + 1)) (lv' := [(4, .int (y50_4 + 1)), (0, .ref (ad24_7 this)), (1, .int p0), (2, .int x105_2), (3, .int y31_3)]) hx hb dX11_rhymes_105 hl (k := 4) rfl rfl (by decide) rfl (fun ls hl => ?_)
                  refine lv_goto (tgt := 50) hx hb dX11_rhymes_108 (by decide) ?_
                  exact ih50 x105_2 (y50_4 + 1) ad24_7 ws H _ ls cc cs _ _ hr hu1 hu2 hE hW hT hP hD hS (lv_sub hl [1, 2, 3, 4, 0] rfl)
                refine lv_if_eq (tgt := 105) hx hb dX11_rhymes_85 (by decide) (fun c85 => ?_) (fun c85 => ?_)
                · replace hr := iteT c85 hr
                  exact Jj105 y50_2 ad24_7 w20 H _ ls cc cs _ _ hr hu1 hu2 hE hW hT hP hD hS (lv_sub hl [0, 1, 2, 3, 4] rfl)
                · replace hr := iteF c85 hr
                  refine lv_aload_n hx hb dX11_rhymes_88 rfl (lv_at hl 0 rfl) ?_
                  obtain ⟨i21, hi21⟩ := hW.o11 hk7_this
                  replace hr := nnS hr
                  obtain ⟨a89, hn89, hr⟩ := hr
                  have hk_a89 : c24_kd a89 = 1 := hT.1 229 _ _ hn89
                  refine va_get (D := (dC, dI)) (ci := 11) (v := .ref (ad24_7 a89)) (C := RX11) (T := TX11) (N := 17) hx hb hts inX11 hown hK hP i21 hi21 rfl 9 (by decide) (hts (.fieldLink RX11 67 "SpellTurner" "book" "LSpellTurner$Book;") ic_106) (fun _ h9 => h9) (congrArg (fun o => some (va_re ad24_7 o)) hn89) dX11_rhymes_89 ?_
                  refine lv_iload_n hx hb dX11_rhymes_92 rfl (lv_at hl 1 rfl) ?_
                  refine lv_iload_n hx hb dX11_rhymes_93 rfl (lv_at hl 3 rfl) ?_
                  refine lv_iload hx hb dX11_rhymes_94 (lv_at hl 4 rfl) ?_
                  replace hr := b1S hr
                  obtain ⟨r96z, hc96, hr⟩ := hr
                  have hFc := fr_all hD hS hA
                  obtain ⟨i22, hi22⟩ := hW.o0 hk_a89
                  refine va_calli (va_runV (As := [.int p0, .int y31_3, .int y50_4]) (rest := []) ⟨hx, hb, hml, hown, hts⟩ (m_X0_formsRhyme l dC dI kk ad24_7 H.size w20 c24_G c24_P c24_U c24_V c24_X c24_O c24_kd c24_ln c24_cnt a89 p0 y31_3 y50_4 hk_a89 hW hT r96z hc96) (cwV 3 hts gc_RX11_X0_formsRhyme_230 rfl rfl rfl (by decide +kernel) ⟨Nat.le_of_ble_eq_true rfl, Nat.le_of_ble_eq_true rfl⟩) ⟨fun a U g mk q => by obtain ⟨q0, q1, qP, qK, qD⟩ := q; exact ⟨q0, q1, qP, va_K.moved (u := U) (U := U.calling g mk a) (Vm.Alike.refl U.vm) qK, qD⟩, va_recv hK hP (ci := 0) (q0 := i22) rfl hi22, fun U hU hW => ⟨rfl, by rw [hU], by rw [hU]; exact hP, va_K.moved hW.alike hK, hD.weaken (fun _ _ _ _ => trivial)⟩⟩ rfl rfl hl.1 rfl (lv_room (Nat.le_of_ble_eq_true rfl)) dX11_rhymes_96 ⟨(by show _ ≤ uc; omega), (by show _ ≤ us; omega)⟩) hS (fun q _ h => hFc q h) hFc (fun r96 w23 t H1 locs ht hvm hw hB hz1 hk1 hS => ?_)
                  obtain ⟨hw0, hW, hT⟩ := hw
                  replace hw0 : r96 = r96z := hw0
                  subst hw0
                  obtain ⟨hP1, hK1, hD1⟩ := hB
                  rw [ht] at hP1
                  obtain ⟨hP, hD⟩ := jn_all (w1 := w23) hFc hP1 hD1
                  replace hP : va_P (dC, dI) vwCl w23 H1 := hP
                  replace hD : va_D A w23 := hD
                  clear hFc hP1 hK1 hD1 hk1 hz1 ht hvm
                  generalize H1 = H at hP hS ⊢
                  refine lv_if_ne (tgt := 105) hx hb dX11_rhymes_99 (by decide) (fun c99 => ?_) (fun c99 => ?_)
                  · replace hr := iteF c99 hr
                    exact Jj105 y50_2 ad24_7 w23 H _ ls cc cs _ _ hr hu1 hu2 hE hW hT hP hD hS (lv_sub hl [0, 1, 2, 3, 4] rfl)
                  · replace hr := iteT c99 hr
                    refine lv_iinc (v := (y50_2 + 1)) (lv' := [(2, .int (y50_2 + 1)), (0, .ref (ad24_7 this)), (1, .int p0), (3, .int y31_3), (4, .int y50_4)]) hx hb dX11_rhymes_102 hl (k := 2) rfl rfl (by decide) rfl (fun ls hl => ?_)
                    exact Jj105 (y50_2 + 1) ad24_7 w23 H _ ls cc cs _ _ hr hu1 hu2 hE hW hT hP hD hS (lv_sub hl [1, 2, 0, 3, 4] rfl)
          exact lp50 NN y31_2 x48 ad24_7 ws H _ ls cc cs _ _ hr hu1 hu2 hE hW hT hP hD hS (lv_sub hl [1, 2, 3, 4, 0] rfl)
    exact lp31 NN 0 0 ad24_7 w7 H _ ls ccn8 csn8 _ _ hr hu1 hu2 hE hW hT hP hD hS (lv_sub hl [2, 3, 1, 0] rfl)
  · replace hr := iteT c5 hr
    refine lv_bipush (v := (-2)) hx hb dX11_rhymes_8 (by decide +kernel) ?_
    replace hr := retS hr
    obtain ⟨hr, hv1, hv2⟩ := hr
    refine W.widen (k := uc) (n := us) (by omega) (by omega) ?_
    exact K 10 ls _ _ _ _ _ _ _ _ _ _ ad w2 H _ hr dX11_rhymes_10 hE hW hT hP hD hS
set_option maxHeartbeats 4000000 in
set_option maxRecDepth 100000 in
theorem m_X11_rhymes (l : Launch) (dC : Nat → ClassId) (dI : Nat → Nat → Nat) (kk : Nat → ClassId) (ad : Nat → Nat) (sz : Nat) (ws : va_W) (G : Nat → Nat → Int32) (P : Nat → Nat → Option Nat) (U : Nat → Nat → Int64) (V : Nat → Nat → Nat → Int32) (X : Nat → Nat → Nat → Int64) (O : Nat → Nat → Nat → Option Nat) (kd : Nat → Nat) (ln : Nat → Nat) (cnt : Nat) (this : Nat) (p0 : Int32) (hk_this : kd this = 12) (hW : LW ws ad kk kd ln G P U V X O) (hT : TYP kd P O (V 0) cnt) (r : Int32) (c_G : Nat → Nat → Int32) (c_P : Nat → Nat → Option Nat) (c_U : Nat → Nat → Int64) (c_V : Nat → Nat → Nat → Int32) (c_X : Nat → Nat → Nat → Int64) (c_O : Nat → Nat → Nat → Option Nat) (c_kd : Nat → Nat) (c_ln : Nat → Nat) (c_cnt : Nat) (uc us : Nat) (hr : f_X11_rhymes G P U V X O kd ln cnt this p0 = some ((r, c_G, c_P, c_U, c_V, c_X, c_O, c_kd, c_ln, c_cnt), uc, us)) : Met l yX11_rhymes vmX11_rhymes ({ frames := 49, cells := uc, slots := us, locals := 1273 } : Room) (va_Pc [.ref (ad this), .int p0] (fun U => U.heap.size = sz ∧ va_P (dC, dI) vwCl ws U.heap ∧ va_K (dC, dI) vwCl (cT kk) U ∧ va_D (fun _ => True) ws)) (va_Qi (fun (rz : Int32) (x : (va_W × (Nat → Nat))) => rz = r ∧ LW x.1 x.2 kk c_kd c_ln c_G c_P c_U c_V c_X c_O ∧ TYP c_kd c_P c_O (c_V 0) c_cnt ∧ adEx kd ad c_kd x.2) (fun x t => va_P (dC, dI) vwCl x.1 t.heap ∧ va_K (dC, dI) vwCl (cT kk) t ∧ va_D (va_A ws sz) x.1) (va_A ws sz)) uc us (va_A ws sz) := by
  refine Met.ofW (cc := cX11_rhymes) (maxL := 5) (ret := (some .int)) (by decide) rfl ?_
  intro p e s m args below meth c s₁ B hml hv
  obtain ⟨rfl, hsz, hP, hK, hD0⟩ := hv
  have hx := B.exec
  have hb := B.bytes
  have hrt := B.returns
  have hts := atoms_spec (ws := vmX11_rhymes) B.pre
  have hown : s.vm.findClass RX11 = some m.cls := findClass_of_methodNamed B.named
  subst hsz
  have hD := hD0.self (sz := s.heap.size)
  generalize hAe : va_A ws s.heap.size = A at hD ⊢
  have hA : ∀ q : Nat, s.heap.size ≤ q → A q := fun q h => by rw [← hAe]; exact Or.inr h
  have hS : va_S A s.heap s.heap [] := va_S.rf
  have hl := lv_entry ([.ref (ad this), .int p0]) (n := 5) (Nat.le_of_ble_eq_true rfl)
  rw [lg_entry_eq]
  generalize (lg_sl ([.ref (ad this), .int p0]) ++ List.replicate (5 - (lg_sl ([.ref (ad this), .int p0])).length) Slot.unset).toArray = ls at hl ⊢
  exact bm_X11_rhymes this p0 hk_this r c_G c_P c_U c_V c_X c_O c_kd c_ln c_cnt uc us hr hx hb hml hown hts hA hK hW hT hP hD hS hl (fun pc ls rz c_Gz c_Pz c_Uz c_Vz c_Xz c_Oz c_kdz c_lnz c_cntz adz ws H locs he hd hE hW hT hP hD hS => by cases he; exact W.iret (v := r) hx hb hrt (fun t ht hW9 => ⟨⟨r, (ws, adz), rfl, ⟨rfl, hW, hT, hE⟩, by rw [ht]; exact hP, va_K.moved hW9.alike hK, hD⟩, hS.F ht⟩) hS.2.2 hd)
set_option maxHeartbeats 4000000 in
set_option maxRecDepth 100000 in
theorem bm_X11_tell {p : Program} {l : Launch} {e : Env} {s : State} {m : MethodId} {args : Array Value} {below : List Frame} {meth : Method} {c : Code} {Q : State → Prop} {A : Nat → Prop} {dC : Nat → ClassId} {dI : Nat → Nat → Nat} {kk : Nat → ClassId} {ad : Nat → Nat} {ws : va_W} {G : Nat → Nat → Int32} {P : Nat → Nat → Option Nat} {U : Nat → Nat → Int64} {V : Nat → Nat → Nat → Int32} {X : Nat → Nat → Nat → Int64} {O : Nat → Nat → Nat → Option Nat} {kd : Nat → Nat} {ln : Nat → Nat} {cnt : Nat} {H : Heap} {locs : List Loc} {ls : Array Slot} (this : Nat) (p0 : Int32) (p1 : Int32) (hk_this : kd this = 12) (r : Int32) (c_G : Nat → Nat → Int32) (c_P : Nat → Nat → Option Nat) (c_U : Nat → Nat → Int64) (c_V : Nat → Nat → Nat → Int32) (c_X : Nat → Nat → Nat → Int64) (c_O : Nat → Nat → Nat → Option Nat) (c_kd : Nat → Nat) (c_ln : Nat → Nat) (c_cnt : Nat) (uc us : Nat) (hr : f_X11_tell G P U V X O kd ln cnt this p0 p1 = some ((r, c_G, c_P, c_U, c_V, c_X, c_O, c_kd, c_ln, c_cnt), uc, us)) (hx : p.tables.exec = Jvm.exec) (hb : c.code = cX11_tell) (hml : c.maxLocals = 5) (hown : s.vm.findClass RX11 = some m.cls) (hts : ∀ w ∈ vmX11_tell, w.before args s = true) (hA : ∀ q : Nat, s.heap.size ≤ q → A q) (hK : va_K (dC, dI) vwCl (cT kk) s) (hW : LW ws ad kk kd ln G P U V X O) (hT : TYP kd P O (V 0) cnt) (hP : va_P (dC, dI) vwCl ws H) (hD : va_D A ws) (hS : va_S A s.heap H locs) (hl : lv_has ls 5 [(0, .ref (ad this)), (1, .int p0), (2, .int p1)])
    (K : ∀ (pc : Nat) (ls : Array Slot) (rz : Int32) (c_Gz : Nat → Nat → Int32) (c_Pz : Nat → Nat → Option Nat) (c_Uz : Nat → Nat → Int64) (c_Vz : Nat → Nat → Nat → Int32) (c_Xz : Nat → Nat → Nat → Int64) (c_Oz : Nat → Nat → Nat → Option Nat) (c_kdz : Nat → Nat) (c_lnz : Nat → Nat) (c_cntz : Nat) (adz : Nat → Nat) (ws : va_W) (H : Heap) (locs : List Loc), some (rz, c_Gz, c_Pz, c_Uz, c_Vz, c_Xz, c_Oz, c_kdz, c_lnz, c_cntz) = some (r, c_G, c_P, c_U, c_V, c_X, c_O, c_kd, c_ln, c_cnt) → decode cX11_tell pc = .ok (.ireturn, 1) → adEx kd ad c_kdz adz → LW ws adz kk c_kdz c_lnz c_Gz c_Pz c_Uz c_Vz c_Xz c_Oz → TYP c_kdz c_Pz c_Oz (c_Vz 0) c_cntz → va_P (dC, dI) vwCl ws H → va_D A ws → va_S A s.heap H locs → W p l e ({ frames := 49, cells := uc, slots := us, locals := 1273 } : Room) s m args below meth c H locs uc us Q (F0 m pc ls [.int rz])) : W p l e ({ frames := 49, cells := uc, slots := us, locals := 1273 } : Room) s m args below meth c H locs 0 0 Q (F0 m 0 ls []) := by
  have hu1 : 0 + uc = uc := Nat.zero_add _
  have hu2 : 0 + us = us := Nat.zero_add _
  have hE : adEx kd ad kd ad := ⟨fun _ _ => rfl, fun _ _ => rfl⟩
  unfold f_X11_tell at hr
  refine lv_aload_n hx hb dX11_tell_0 rfl (lv_at hl 0 rfl) ?_
  refine lv_iload_n hx hb dX11_tell_1 rfl (lv_at hl 1 rfl) ?_
  replace hr := b1S hr
  obtain ⟨r2z, hc2, hr⟩ := hr
  have hFc := fr_all hD hS hA
  obtain ⟨i1, hi1⟩ := hW.o11 hk_this
  refine va_calli (va_runV (As := [.int p0]) (rest := []) ⟨hx, hb, hml, hown, hts⟩ (m_X11_isStage l dC dI kk ad H.size ws G P U V X O kd ln cnt this p0 hk_this hW hT r2z hc2) (cwV 1 hts gc_RX11_X11_isStage_208 rfl rfl rfl (by decide +kernel) ⟨Nat.le_of_ble_eq_true rfl, Nat.le_of_ble_eq_true rfl⟩) ⟨fun a U g mk q => by obtain ⟨q0, q1, qP, qK, qD⟩ := q; exact ⟨q0, q1, qP, va_K.moved (u := U) (U := U.calling g mk a) (Vm.Alike.refl U.vm) qK, qD⟩, va_recv hK hP (ci := 11) (q0 := i1) rfl hi1, fun U hU hW => ⟨rfl, by rw [hU], by rw [hU]; exact hP, va_K.moved hW.alike hK, hD.weaken (fun _ _ _ _ => trivial)⟩⟩ rfl rfl hl.1 rfl (lv_room (Nat.le_of_ble_eq_true rfl)) dX11_tell_2 ⟨(by show _ ≤ uc; omega), (by show _ ≤ us; omega)⟩) hS (fun q _ h => hFc q h) hFc (fun r2 w2 t H1 locs ht hvm hw hB hz1 hk1 hS => ?_)
  obtain ⟨hw0, hW, hT⟩ := hw
  replace hw0 : r2 = r2z := hw0
  subst hw0
  obtain ⟨hP1, hK1, hD1⟩ := hB
  rw [ht] at hP1
  obtain ⟨hP, hD⟩ := jn_all (w1 := w2) hFc hP1 hD1
  replace hP : va_P (dC, dI) vwCl w2 H1 := hP
  replace hD : va_D A w2 := hD
  clear hFc hP1 hK1 hD1 hk1 hz1 ht hvm
  generalize H1 = H at hP hS ⊢
  replace hr := jnS hr
  obtain ⟨j17, hj17, hr⟩ := hr
  have Jj17 : ∀ (ws : va_W) (H : Heap) (locs : List Loc) (ls : Array Slot) (cc cs u1 u2 : Nat), j17 () = some ((r, c_G, c_P, c_U, c_V, c_X, c_O, c_kd, c_ln, c_cnt), u1, u2) → cc + u1 = uc → cs + u2 = us → adEx kd ad kd ad → LW ws ad kk kd ln G P U V X O → TYP kd P O (V 0) cnt → va_P (dC, dI) vwCl ws H → va_D A ws → va_S A s.heap H locs → lv_has ls 5 [] → W p l e ({ frames := 49, cells := uc, slots := us, locals := 1273 } : Room) s m args below meth c H locs cc cs Q (F0 m 17 ls []) := by
    intro ws H locs ls cc cs u1 u2 hr hu1 hu2 hE hW hT hP hD hS hl
    rw [hj17] at hr
    refine lv_bipush (v := (-2)) hx hb dX11_tell_17 (by decide +kernel) ?_
    replace hr := retS hr
    obtain ⟨hr, hv1, hv2⟩ := hr
    refine W.widen (k := uc) (n := us) (by omega) (by omega) ?_
    exact K 19 ls _ _ _ _ _ _ _ _ _ _ ad ws H _ hr dX11_tell_19 hE hW hT hP hD hS
  refine lv_if_eq (tgt := 17) hx hb dX11_tell_5 (by decide) (fun c5 => ?_) (fun c5 => ?_)
  · replace hr := iteT c5 hr
    exact Jj17 w2 H _ ls 0 0 _ _ hr hu1 hu2 hE hW hT hP hD hS (lv_sub hl [] rfl)
  · replace hr := iteF c5 hr
    refine lv_iload_n hx hb dX11_tell_8 rfl (lv_at hl 2 rfl) ?_
    refine lv_if_lt (tgt := 17) hx hb dX11_tell_9 (by decide) (fun c9 => ?_) (fun c9 => ?_)
    · replace hr := iteT c9 hr
      exact Jj17 w2 H _ ls 0 0 _ _ hr hu1 hu2 hE hW hT hP hD hS (lv_sub hl [] rfl)
    · replace hr := iteF c9 hr
      refine lv_iload_n hx hb dX11_tell_12 rfl (lv_at hl 2 rfl) ?_
      refine lv_iconst (v := 2) hx hb dX11_tell_13 (by decide +kernel) ?_
      refine lv_icmp_le (tgt := 20) hx hb dX11_tell_14 (by decide) (fun c14 => ?_) (fun c14 => ?_)
      · replace hr := iteT c14 hr
        refine lv_aload_n hx hb dX11_tell_20 rfl (lv_at hl 0 rfl) ?_
        obtain ⟨i3, hi3⟩ := hW.o11 hk_this
        replace hr := nnS hr
        obtain ⟨a21, hn21, hr⟩ := hr
        have hk_a21 : kd a21 = 1 := hT.1 229 _ _ hn21
        refine va_get (D := (dC, dI)) (ci := 11) (v := .ref (ad a21)) (C := RX11) (T := TX11) (N := 17) hx hb hts inX11 hown hK hP i3 hi3 rfl 9 (by decide) (hts (.fieldLink RX11 67 "SpellTurner" "book" "LSpellTurner$Book;") ic_106) (fun _ h9 => h9) (congrArg (fun o => some (va_re ad o)) hn21) dX11_tell_21 ?_
        refine lv_iload_n hx hb dX11_tell_24 rfl (lv_at hl 1 rfl) ?_
        refine lv_aload_n hx hb dX11_tell_25 rfl (lv_at hl 0 rfl) ?_
        obtain ⟨i4, hi4⟩ := hW.o11 hk_this
        replace hr := nnS hr
        obtain ⟨a26, hn26, hr⟩ := hr
        have hk_a26 : kd a26 = 302 := hT.1 221 _ _ hn26
        refine va_get (D := (dC, dI)) (ci := 11) (v := .ref (ad a26)) (C := RX11) (T := TX11) (N := 17) hx hb hts inX11 hown hK hP i4 hi4 rfl 1 (by decide) (hts (.fieldLink RX11 18 "SpellTurner" "reforms" "[LSpellTurner$Reform;") ic_56) (fun _ h9 => h9) (congrArg (fun o => some (va_re ad o)) hn26) dX11_tell_26 ?_
        refine lv_aload_n hx hb dX11_tell_29 rfl (lv_at hl 0 rfl) ?_
        obtain ⟨i5, hi5⟩ := hW.o11 hk_this
        replace hr := nnS hr
        obtain ⟨a30, hn30, hr⟩ := hr
        have hk_a30 : kd a30 = 10 := hT.1 226 _ _ hn30
        refine va_get (D := (dC, dI)) (ci := 11) (v := .ref (ad a30)) (C := RX11) (T := TX11) (N := 17) hx hb hts inX11 hown hK hP i5 hi5 rfl 6 (by decide) (hts (.fieldLink RX11 44 "SpellTurner" "turner" "LSpellTurner$Turner;") ic_340) (fun _ h9 => h9) (congrArg (fun o => some (va_re ad o)) hn30) dX11_tell_30 ?_
        replace hr := bA9S hr
        obtain ⟨c33_G, c33_P, c33_U, c33_V, c33_X, c33_O, c33_kd, c33_ln, c33_cnt, zv1, zv2, zw1, zw2, hc33, hr, hq1, hq2⟩ := hr
        have hFc := fr_all hD hS hA
        obtain ⟨i6, hi6⟩ := hW.o0 hk_a21
        refine va_callv (va_runV (As := [.int p0, .ref (ad a26), .ref (ad a30)]) (rest := []) ⟨hx, hb, hml, hown, hts⟩ (m_X0_fill l dC dI kk ad H.size w2 G P U V X O kd ln cnt a21 p0 a26 a30 hk_a21 hk_a26 hk_a30 hW hT c33_G c33_P c33_U c33_V c33_X c33_O c33_kd c33_ln c33_cnt zv1 zv2 hc33) (cwV 3 hts gc_RX11_X0_fill_211 rfl rfl rfl (by decide +kernel) ⟨Nat.le_of_ble_eq_true rfl, Nat.le_of_ble_eq_true rfl⟩) ⟨fun a U g mk q => by obtain ⟨q0, q1, qP, qK, qD⟩ := q; exact ⟨q0, q1, qP, va_K.moved (u := U) (U := U.calling g mk a) (Vm.Alike.refl U.vm) qK, qD⟩, va_recv hK hP (ci := 0) (q0 := i6) rfl hi6, fun U hU hW => ⟨rfl, by rw [hU], by rw [hU]; exact hP, va_K.moved hW.alike hK, hD.weaken (fun _ _ _ _ => trivial)⟩⟩ rfl rfl hl.1 rfl (lv_room (Nat.le_of_ble_eq_true rfl)) dX11_tell_33 ⟨(by show _ ≤ uc; omega), (by show _ ≤ us; omega)⟩) hS (fun q _ h => hFc q h) hFc (fun w7 t H1 locs ht hvm hw hB hz1 hk1 hS => ?_)
        obtain ⟨w7, ad33_7⟩ := w7
        dsimp only at hw hB
        obtain ⟨hW, hT, hE2⟩ := hw
        obtain ⟨hP1, hK1, hD1⟩ := hB
        rw [ht] at hP1
        obtain ⟨hP, hD⟩ := jn_all (w1 := w7) hFc hP1 hD1
        replace hP : va_P (dC, dI) vwCl w7 H1 := hP
        replace hD : va_D A w7 := hD
        clear hFc hP1 hK1 hD1 hk1 hz1 ht hvm
        generalize H1 = H at hP hS ⊢
        have ea_this : ad this = ad33_7 this := (hE2.1 this (by rw [hk_this]; decide)).symm
        have hk7_this := (hE2.2 this (by rw [hk_this]; decide)).trans hk_this
        rw [ea_this] at hl
        clear ea_this
        replace hE := adE hE hE2
        clear hE2
        obtain ⟨ccn8, eccn8⟩ : ∃ y : Nat, y = (0 + zv1) := ⟨_, rfl⟩
        obtain ⟨csn8, ecsn8⟩ : ∃ y : Nat, y = (0 + zv2) := ⟨_, rfl⟩
        refine W.widen (k := ccn8) (n := csn8) (Nat.le_of_eq eccn8.symm) (Nat.le_of_eq ecsn8.symm) ?_
        replace hu1 : ccn8 + zw1 = uc := by omega
        replace hu2 : csn8 + zw2 = us := by omega
        clear eccn8 ecsn8
        refine lv_iconst (v := 0) hx hb dX11_tell_36 (by decide +kernel) ?_
        refine lv_istore_n (lv' := [(3, .int 0), (0, .ref (ad33_7 this)), (1, .int p0), (2, .int p1)]) hx hb dX11_tell_37 rfl hl (by decide) rfl (fun ls hl => ?_)
        refine lv_iconst (v := 0) hx hb dX11_tell_38 (by decide +kernel) ?_
        refine lv_istore (lv' := [(4, .int 0), (3, .int 0), (0, .ref (ad33_7 this)), (1, .int p0), (2, .int p1)]) hx hb dX11_tell_39 hl (by decide) rfl (fun ls hl => ?_)
        have lp41 : ∀ (n41 : Nat), ∀ (y41_3 : Int32) (y41_4 : Int32) (ad33_7 : Nat → Nat) (ws : va_W) (H : Heap) (locs : List Loc) (ls : Array Slot) (cc cs u1 u2 : Nat), L_X11_tell_41 this p0 p1 c33_G c33_P c33_U c33_V c33_X c33_O c33_kd c33_ln c33_cnt n41 y41_3 y41_4 = some ((r, c_G, c_P, c_U, c_V, c_X, c_O, c_kd, c_ln, c_cnt), u1, u2) → cc + u1 = uc → cs + u2 = us → adEx kd ad c33_kd ad33_7 → LW ws ad33_7 kk c33_kd c33_ln c33_G c33_P c33_U c33_V c33_X c33_O → TYP c33_kd c33_P c33_O (c33_V 0) c33_cnt → va_P (dC, dI) vwCl ws H → va_D A ws → va_S A s.heap H locs → lv_has ls 5 [(0, .ref (ad33_7 this)), (1, .int p0), (2, .int p1), (3, .int y41_3), (4, .int y41_4)] → W p l e ({ frames := 49, cells := uc, slots := us, locals := 1273 } : Room) s m args below meth c H locs cc cs Q (F0 m 41 ls []) := by
          intro n41
          induction n41 with
          | zero => intro y41_3 y41_4 ad33_7 ws H locs ls cc cs u1 u2 hr hu1 hu2 hE hW hT hP hD hS hl; exact nomatch (show none = some ((r, c_G, c_P, c_U, c_V, c_X, c_O, c_kd, c_ln, c_cnt), u1, u2) from hr)
          | succ n41 ih41 =>
            intro y41_3 y41_4 ad33_7 ws H locs ls cc cs u1 u2 hr hu1 hu2 hE hW hT hP hD hS hl
            replace hr : B_X11_tell_41 this p0 p1 c33_G c33_P c33_U c33_V c33_X c33_O c33_kd c33_ln c33_cnt (L_X11_tell_41 this p0 p1 c33_G c33_P c33_U c33_V c33_X c33_O c33_kd c33_ln c33_cnt n41) y41_3 y41_4 = some ((r, c_G, c_P, c_U, c_V, c_X, c_O, c_kd, c_ln, c_cnt), u1, u2) := hr
            unfold B_X11_tell_41 at hr
            refine lv_iload hx hb dX11_tell_41 (lv_at hl 4 rfl) ?_
            refine lv_aload_n hx hb dX11_tell_43 rfl (lv_at hl 0 rfl) ?_
            obtain ⟨i9, hi9⟩ := hW.o11 hk7_this
            replace hr := nnS hr
            obtain ⟨a44, hn44, hr⟩ := hr
            have hk_a44 : c33_kd a44 = 1 := hT.1 229 _ _ hn44
            refine va_get (D := (dC, dI)) (ci := 11) (v := .ref (ad33_7 a44)) (C := RX11) (T := TX11) (N := 17) hx hb hts inX11 hown hK hP i9 hi9 rfl 9 (by decide) (hts (.fieldLink RX11 67 "SpellTurner" "book" "LSpellTurner$Book;") ic_106) (fun _ h9 => h9) (congrArg (fun o => some (va_re ad33_7 o)) hn44) dX11_tell_44 ?_
            obtain ⟨i10, hi10⟩ := hW.o0 hk_a44
            replace hr := nnS hr
            obtain ⟨a47, hn47, hr⟩ := hr
            have hk_a47 : c33_kd a47 = 11 := hT.1 0 _ _ hn47
            refine va_get (D := (dC, dI)) (ci := 0) (v := .ref (ad33_7 a47)) (C := RX0) (T := TX0) (N := 6) hx hb hts inX0 hown hK hP i10 hi10 rfl 0 (by decide) (hts (.fieldLink RX11 197 "SpellTurner$Book" "words" "LSpellTurner$WordRow;") ic_124) (fun _ h9 => h9) (congrArg (fun o => some (va_re ad33_7 o)) hn47) dX11_tell_47 ?_
            obtain ⟨i11, hi11⟩ := hW.o10 hk_a47
            refine va_get (D := (dC, dI)) (ci := 10) (v := .int ((c33_G 203) a47)) (C := RX10) (T := TX10) (N := 4) hx hb hts inX10 hown hK hP i11 hi11 rfl 3 (by decide) (hts (.fieldLink RX11 151 "SpellTurner$WordRow" "count" "I") ic_67) (fun _ h9 => h9) rfl dX11_tell_50 ?_
            refine lv_icmp_ge (tgt := 79) hx hb dX11_tell_53 (by decide) (fun c53 => ?_) (fun c53 => ?_)
            · replace hr := iteT c53 hr
              refine lv_iload_n hx hb dX11_tell_79 rfl (lv_at hl 3 rfl) ?_
              replace hr := retS hr
              obtain ⟨hr, hv1, hv2⟩ := hr
              refine W.widen (k := uc) (n := us) (by omega) (by omega) ?_
              exact K 80 ls _ _ _ _ _ _ _ _ _ _ ad33_7 ws H _ hr dX11_tell_80 hE hW hT hP hD hS
            · replace hr := iteF c53 hr
              refine lv_aload_n hx hb dX11_tell_56 rfl (lv_at hl 0 rfl) ?_
              obtain ⟨i12, hi12⟩ := hW.o11 hk7_this
              replace hr := nnS hr
              obtain ⟨a57, hn57, hr⟩ := hr
              have hk_a57 : c33_kd a57 = 1 := hT.1 229 _ _ hn57
              refine va_get (D := (dC, dI)) (ci := 11) (v := .ref (ad33_7 a57)) (C := RX11) (T := TX11) (N := 17) hx hb hts inX11 hown hK hP i12 hi12 rfl 9 (by decide) (hts (.fieldLink RX11 67 "SpellTurner" "book" "LSpellTurner$Book;") ic_106) (fun _ h9 => h9) (congrArg (fun o => some (va_re ad33_7 o)) hn57) dX11_tell_57 ?_
              refine lv_iload_n hx hb dX11_tell_60 rfl (lv_at hl 1 rfl) ?_
              refine lv_iload hx hb dX11_tell_61 (lv_at hl 4 rfl) ?_
              refine lv_iload_n hx hb dX11_tell_63 rfl (lv_at hl 2 rfl) ?_
              replace hr := b1S hr
              obtain ⟨r64z, hc64, hr⟩ := hr
              have hFc := fr_all hD hS hA
              obtain ⟨i13, hi13⟩ := hW.o0 hk_a57
              refine va_calli (va_runV (As := [.int p0, .int y41_4, .int p1]) (rest := []) ⟨hx, hb, hml, hown, hts⟩ (m_X0_isSuch l dC dI kk ad33_7 H.size ws c33_G c33_P c33_U c33_V c33_X c33_O c33_kd c33_ln c33_cnt a57 p0 y41_4 p1 hk_a57 hW hT r64z hc64) (cwV 3 hts gc_RX11_X0_isSuch_233 rfl rfl rfl (by decide +kernel) ⟨Nat.le_of_ble_eq_true rfl, Nat.le_of_ble_eq_true rfl⟩) ⟨fun a U g mk q => by obtain ⟨q0, q1, qP, qK, qD⟩ := q; exact ⟨q0, q1, qP, va_K.moved (u := U) (U := U.calling g mk a) (Vm.Alike.refl U.vm) qK, qD⟩, va_recv hK hP (ci := 0) (q0 := i13) rfl hi13, fun U hU hW => ⟨rfl, by rw [hU], by rw [hU]; exact hP, va_K.moved hW.alike hK, hD.weaken (fun _ _ _ _ => trivial)⟩⟩ rfl rfl hl.1 rfl (lv_room (Nat.le_of_ble_eq_true rfl)) dX11_tell_64 ⟨(by show _ ≤ uc; omega), (by show _ ≤ us; omega)⟩) hS (fun q _ h => hFc q h) hFc (fun r64 w14 t H1 locs ht hvm hw hB hz1 hk1 hS => ?_)
              obtain ⟨hw0, hW, hT⟩ := hw
              replace hw0 : r64 = r64z := hw0
              subst hw0
              obtain ⟨hP1, hK1, hD1⟩ := hB
              rw [ht] at hP1
              obtain ⟨hP, hD⟩ := jn_all (w1 := w14) hFc hP1 hD1
              replace hP : va_P (dC, dI) vwCl w14 H1 := hP
              replace hD : va_D A w14 := hD
              clear hFc hP1 hK1 hD1 hk1 hz1 ht hvm
              generalize H1 = H at hP hS ⊢
              replace hr := jnS hr
              obtain ⟨j73, hj73, hr⟩ := hr
              have Jj73 : ∀ (x73_3 : Int32) (ad33_7 : Nat → Nat) (ws : va_W) (H : Heap) (locs : List Loc) (ls : Array Slot) (cc cs u1 u2 : Nat), j73 x73_3 = some ((r, c_G, c_P, c_U, c_V, c_X, c_O, c_kd, c_ln, c_cnt), u1, u2) → cc + u1 = uc → cs + u2 = us → adEx kd ad c33_kd ad33_7 → LW ws ad33_7 kk c33_kd c33_ln c33_G c33_P c33_U c33_V c33_X c33_O → TYP c33_kd c33_P c33_O (c33_V 0) c33_cnt → va_P (dC, dI) vwCl ws H → va_D A ws → va_S A s.heap H locs → lv_has ls 5 [(0, .ref (ad33_7 this)), (1, .int p0), (2, .int p1), (3, .int x73_3), (4, .int y41_4)] → W p l e ({ frames := 49, cells := uc, slots := us, locals := 1273 } : Room) s m args below meth c H locs cc cs Q (F0 m 73 ls []) := by
                intro x73_3 ad33_7 ws H locs ls cc cs u1 u2 hr hu1 hu2 hE hW hT hP hD hS hl
                rw [hj73] at hr
                refine lv_iinc (v := (y41_4 + 1)) (lv' := [(4, .int (y41_4 + 1)), (0, .ref (ad33_7 this)), (1, .int p0), (2, .int p1), (3, .int x73_3)]) hx hb dX11_tell_73 hl (k := 4) rfl rfl (by decide) rfl (fun ls hl => ?_)
                refine lv_goto (tgt := 41) hx hb dX11_tell_76 (by decide) ?_
                exact ih41 x73_3 (y41_4 + 1) ad33_7 ws H _ ls cc cs _ _ hr hu1 hu2 hE hW hT hP hD hS (lv_sub hl [1, 2, 3, 4, 0] rfl)
              refine lv_if_eq (tgt := 73) hx hb dX11_tell_67 (by decide) (fun c67 => ?_) (fun c67 => ?_)
              · replace hr := iteT c67 hr
                exact Jj73 y41_3 ad33_7 w14 H _ ls cc cs _ _ hr hu1 hu2 hE hW hT hP hD hS (lv_sub hl [0, 1, 2, 3, 4] rfl)
              · replace hr := iteF c67 hr
                refine lv_iinc (v := (y41_3 + 1)) (lv' := [(3, .int (y41_3 + 1)), (0, .ref (ad33_7 this)), (1, .int p0), (2, .int p1), (4, .int y41_4)]) hx hb dX11_tell_70 hl (k := 3) rfl rfl (by decide) rfl (fun ls hl => ?_)
                exact Jj73 (y41_3 + 1) ad33_7 w14 H _ ls cc cs _ _ hr hu1 hu2 hE hW hT hP hD hS (lv_sub hl [1, 2, 3, 0, 4] rfl)
        exact lp41 NN 0 0 ad33_7 w7 H _ ls ccn8 csn8 _ _ hr hu1 hu2 hE hW hT hP hD hS (lv_sub hl [2, 3, 4, 1, 0] rfl)
      · replace hr := iteF c14 hr
        exact Jj17 w2 H _ ls 0 0 _ _ hr hu1 hu2 hE hW hT hP hD hS (lv_sub hl [] rfl)
set_option maxHeartbeats 4000000 in
set_option maxRecDepth 100000 in
theorem m_X11_tell (l : Launch) (dC : Nat → ClassId) (dI : Nat → Nat → Nat) (kk : Nat → ClassId) (ad : Nat → Nat) (sz : Nat) (ws : va_W) (G : Nat → Nat → Int32) (P : Nat → Nat → Option Nat) (U : Nat → Nat → Int64) (V : Nat → Nat → Nat → Int32) (X : Nat → Nat → Nat → Int64) (O : Nat → Nat → Nat → Option Nat) (kd : Nat → Nat) (ln : Nat → Nat) (cnt : Nat) (this : Nat) (p0 : Int32) (p1 : Int32) (hk_this : kd this = 12) (hW : LW ws ad kk kd ln G P U V X O) (hT : TYP kd P O (V 0) cnt) (r : Int32) (c_G : Nat → Nat → Int32) (c_P : Nat → Nat → Option Nat) (c_U : Nat → Nat → Int64) (c_V : Nat → Nat → Nat → Int32) (c_X : Nat → Nat → Nat → Int64) (c_O : Nat → Nat → Nat → Option Nat) (c_kd : Nat → Nat) (c_ln : Nat → Nat) (c_cnt : Nat) (uc us : Nat) (hr : f_X11_tell G P U V X O kd ln cnt this p0 p1 = some ((r, c_G, c_P, c_U, c_V, c_X, c_O, c_kd, c_ln, c_cnt), uc, us)) : Met l yX11_tell vmX11_tell ({ frames := 49, cells := uc, slots := us, locals := 1273 } : Room) (va_Pc [.ref (ad this), .int p0, .int p1] (fun U => U.heap.size = sz ∧ va_P (dC, dI) vwCl ws U.heap ∧ va_K (dC, dI) vwCl (cT kk) U ∧ va_D (fun _ => True) ws)) (va_Qi (fun (rz : Int32) (x : (va_W × (Nat → Nat))) => rz = r ∧ LW x.1 x.2 kk c_kd c_ln c_G c_P c_U c_V c_X c_O ∧ TYP c_kd c_P c_O (c_V 0) c_cnt ∧ adEx kd ad c_kd x.2) (fun x t => va_P (dC, dI) vwCl x.1 t.heap ∧ va_K (dC, dI) vwCl (cT kk) t ∧ va_D (va_A ws sz) x.1) (va_A ws sz)) uc us (va_A ws sz) := by
  refine Met.ofW (cc := cX11_tell) (maxL := 5) (ret := (some .int)) (by decide) rfl ?_
  intro p e s m args below meth c s₁ B hml hv
  obtain ⟨rfl, hsz, hP, hK, hD0⟩ := hv
  have hx := B.exec
  have hb := B.bytes
  have hrt := B.returns
  have hts := atoms_spec (ws := vmX11_tell) B.pre
  have hown : s.vm.findClass RX11 = some m.cls := findClass_of_methodNamed B.named
  subst hsz
  have hD := hD0.self (sz := s.heap.size)
  generalize hAe : va_A ws s.heap.size = A at hD ⊢
  have hA : ∀ q : Nat, s.heap.size ≤ q → A q := fun q h => by rw [← hAe]; exact Or.inr h
  have hS : va_S A s.heap s.heap [] := va_S.rf
  have hl := lv_entry ([.ref (ad this), .int p0, .int p1]) (n := 5) (Nat.le_of_ble_eq_true rfl)
  rw [lg_entry_eq]
  generalize (lg_sl ([.ref (ad this), .int p0, .int p1]) ++ List.replicate (5 - (lg_sl ([.ref (ad this), .int p0, .int p1])).length) Slot.unset).toArray = ls at hl ⊢
  exact bm_X11_tell this p0 p1 hk_this r c_G c_P c_U c_V c_X c_O c_kd c_ln c_cnt uc us hr hx hb hml hown hts hA hK hW hT hP hD hS hl (fun pc ls rz c_Gz c_Pz c_Uz c_Vz c_Xz c_Oz c_kdz c_lnz c_cntz adz ws H locs he hd hE hW hT hP hD hS => by cases he; exact W.iret (v := r) hx hb hrt (fun t ht hW9 => ⟨⟨r, (ws, adz), rfl, ⟨rfl, hW, hT, hE⟩, by rw [ht]; exact hP, va_K.moved hW9.alike hK, hD⟩, hS.F ht⟩) hS.2.2 hd)
set_option maxHeartbeats 4000000 in
set_option maxRecDepth 100000 in
theorem bm_X11_uses {p : Program} {l : Launch} {e : Env} {s : State} {m : MethodId} {args : Array Value} {below : List Frame} {meth : Method} {c : Code} {Q : State → Prop} {A : Nat → Prop} {dC : Nat → ClassId} {dI : Nat → Nat → Nat} {kk : Nat → ClassId} {ad : Nat → Nat} {ws : va_W} {G : Nat → Nat → Int32} {P : Nat → Nat → Option Nat} {U : Nat → Nat → Int64} {V : Nat → Nat → Nat → Int32} {X : Nat → Nat → Nat → Int64} {O : Nat → Nat → Nat → Option Nat} {kd : Nat → Nat} {ln : Nat → Nat} {cnt : Nat} {H : Heap} {locs : List Loc} {ls : Array Slot} (this : Nat) (p0 : Int32) (p1 : Int32) (hk_this : kd this = 12) (r : Int32) (c_G : Nat → Nat → Int32) (c_P : Nat → Nat → Option Nat) (c_U : Nat → Nat → Int64) (c_V : Nat → Nat → Nat → Int32) (c_X : Nat → Nat → Nat → Int64) (c_O : Nat → Nat → Nat → Option Nat) (c_kd : Nat → Nat) (c_ln : Nat → Nat) (c_cnt : Nat) (uc us : Nat) (hr : f_X11_uses G P U V X O kd ln cnt this p0 p1 = some ((r, c_G, c_P, c_U, c_V, c_X, c_O, c_kd, c_ln, c_cnt), uc, us)) (hx : p.tables.exec = Jvm.exec) (hb : c.code = cX11_uses) (hml : c.maxLocals = 6) (hown : s.vm.findClass RX11 = some m.cls) (hts : ∀ w ∈ vmX11_uses, w.before args s = true) (hA : ∀ q : Nat, s.heap.size ≤ q → A q) (hK : va_K (dC, dI) vwCl (cT kk) s) (hW : LW ws ad kk kd ln G P U V X O) (hT : TYP kd P O (V 0) cnt) (hP : va_P (dC, dI) vwCl ws H) (hD : va_D A ws) (hS : va_S A s.heap H locs) (hl : lv_has ls 6 [(0, .ref (ad this)), (1, .int p0), (2, .int p1)])
    (K : ∀ (pc : Nat) (ls : Array Slot) (rz : Int32) (c_Gz : Nat → Nat → Int32) (c_Pz : Nat → Nat → Option Nat) (c_Uz : Nat → Nat → Int64) (c_Vz : Nat → Nat → Nat → Int32) (c_Xz : Nat → Nat → Nat → Int64) (c_Oz : Nat → Nat → Nat → Option Nat) (c_kdz : Nat → Nat) (c_lnz : Nat → Nat) (c_cntz : Nat) (adz : Nat → Nat) (ws : va_W) (H : Heap) (locs : List Loc), some (rz, c_Gz, c_Pz, c_Uz, c_Vz, c_Xz, c_Oz, c_kdz, c_lnz, c_cntz) = some (r, c_G, c_P, c_U, c_V, c_X, c_O, c_kd, c_ln, c_cnt) → decode cX11_uses pc = .ok (.ireturn, 1) → adEx kd ad c_kdz adz → LW ws adz kk c_kdz c_lnz c_Gz c_Pz c_Uz c_Vz c_Xz c_Oz → TYP c_kdz c_Pz c_Oz (c_Vz 0) c_cntz → va_P (dC, dI) vwCl ws H → va_D A ws → va_S A s.heap H locs → W p l e ({ frames := 49, cells := uc, slots := us, locals := 1273 } : Room) s m args below meth c H locs uc us Q (F0 m pc ls [.int rz])) : W p l e ({ frames := 49, cells := uc, slots := us, locals := 1273 } : Room) s m args below meth c H locs 0 0 Q (F0 m 0 ls []) := by
  have hu1 : 0 + uc = uc := Nat.zero_add _
  have hu2 : 0 + us = us := Nat.zero_add _
  have hE : adEx kd ad kd ad := ⟨fun _ _ => rfl, fun _ _ => rfl⟩
  unfold f_X11_uses at hr
  refine lv_aload_n hx hb dX11_uses_0 rfl (lv_at hl 0 rfl) ?_
  refine lv_iload_n hx hb dX11_uses_1 rfl (lv_at hl 1 rfl) ?_
  replace hr := b1S hr
  obtain ⟨r2z, hc2, hr⟩ := hr
  have hFc := fr_all hD hS hA
  obtain ⟨i1, hi1⟩ := hW.o11 hk_this
  refine va_calle (va_runV (As := [.int p0]) (rest := []) ⟨hx, hb, hml, hown, hts⟩ (m_X11_reformAt l dC dI kk ad H.size ws G P U V X O kd ln cnt this p0 hk_this hW hT r2z hc2) (cwV 1 hts gc_RX11_X11_reformAt_138 rfl rfl rfl (by decide +kernel) ⟨Nat.le_of_ble_eq_true rfl, Nat.le_of_ble_eq_true rfl⟩) ⟨fun a U g mk q => by obtain ⟨q0, q1, qP, qK, qD⟩ := q; exact ⟨q0, q1, qP, va_K.moved (u := U) (U := U.calling g mk a) (Vm.Alike.refl U.vm) qK, qD⟩, va_recv hK hP (ci := 11) (q0 := i1) rfl hi1, fun U hU hW => ⟨rfl, by rw [hU], by rw [hU]; exact hP, va_K.moved hW.alike hK, hD.weaken (fun _ _ _ _ => trivial)⟩⟩ rfl rfl hl.1 rfl (lv_room (Nat.le_of_ble_eq_true rfl)) dX11_uses_2 ⟨(by show _ ≤ uc; omega), (by show _ ≤ us; omega)⟩) hS (fun q _ h => hFc q h) hFc (fun r2 w2 t H1 locs ht hvm hw hB hz1 hk1 hS => ?_)
  obtain ⟨hw0, hW, hT, hkr2⟩ := hw
  replace hw0 : r2 = r2z := hw0
  subst hw0
  obtain ⟨hP1, hK1, hD1⟩ := hB
  rw [ht] at hP1
  obtain ⟨hP, hD⟩ := jn_all (w1 := w2) hFc hP1 hD1
  replace hP : va_P (dC, dI) vwCl w2 H1 := hP
  replace hD : va_D A w2 := hD
  clear hFc hP1 hK1 hD1 hk1 hz1 ht hvm
  generalize H1 = H at hP hS ⊢
  refine lq_astore_n (lv' := [(3, va_re ad r2), (0, .ref (ad this)), (1, .int p0), (2, .int p1)]) hx hb dX11_uses_5 rfl hl (by decide) rfl (fun ls hl => ?_)
  refine lq_aload_n hx hb dX11_uses_6 rfl (lv_at hl 0 rfl) ?_
  replace hr := jnS hr
  obtain ⟨j22, hj22, hr⟩ := hr
  have Jj22 : ∀ (ws : va_W) (H : Heap) (locs : List Loc) (ls : Array Slot) (cc cs u1 u2 : Nat), j22 () = some ((r, c_G, c_P, c_U, c_V, c_X, c_O, c_kd, c_ln, c_cnt), u1, u2) → cc + u1 = uc → cs + u2 = us → adEx kd ad kd ad → LW ws ad kk kd ln G P U V X O → TYP kd P O (V 0) cnt → va_P (dC, dI) vwCl ws H → va_D A ws → va_S A s.heap H locs → lv_has ls 6 [] → W p l e ({ frames := 49, cells := uc, slots := us, locals := 1273 } : Room) s m args below meth c H locs cc cs Q (F0 m 22 ls []) := by
    intro ws H locs ls cc cs u1 u2 hr hu1 hu2 hE hW hT hP hD hS hl
    rw [hj22] at hr
    refine lv_bipush (v := (-2)) hx hb dX11_uses_22 (by decide +kernel) ?_
    replace hr := retS hr
    obtain ⟨hr, hv1, hv2⟩ := hr
    refine W.widen (k := uc) (n := us) (by omega) (by omega) ?_
    exact K 24 ls _ _ _ _ _ _ _ _ _ _ ad ws H _ hr dX11_uses_24 hE hW hT hP hD hS
  refine lq_ifnull (tgt := 22) hx hb dX11_uses_7 (by decide) (fun c7 => ?_) (fun b7 c7 => ?_)
  · subst c7
    replace hr := ocN hr
    replace hl : lv_has ls 6 [(3, .null), (0, .ref (ad this)), (1, .int p0), (2, .int p1)] := hl
    exact Jj22 w2 H _ ls 0 0 _ _ hr hu1 hu2 hE hW hT hP hD hS (lv_sub hl [] rfl)
  · subst c7
    replace hr := ocS hr
    replace hl : lv_has ls 6 [(3, .ref (ad b7)), (0, .ref (ad this)), (1, .int p0), (2, .int p1)] := hl
    have hk_b7 := hkr2 b7 rfl
    refine lv_iload_n hx hb dX11_uses_10 rfl (lv_at hl 3 rfl) ?_
    refine lv_if_lt (tgt := 22) hx hb dX11_uses_11 (by decide) (fun c11 => ?_) (fun c11 => ?_)
    · replace hr := iteT c11 hr
      exact Jj22 w2 H _ ls 0 0 _ _ hr hu1 hu2 hE hW hT hP hD hS (lv_sub hl [] rfl)
    · replace hr := iteF c11 hr
      refine lv_iload_n hx hb dX11_uses_14 rfl (lv_at hl 3 rfl) ?_
      refine lv_aload_n hx hb dX11_uses_15 rfl (lv_at hl 0 rfl) ?_
      obtain ⟨i3, hi3⟩ := hW.o5 hk_b7
      refine va_get (D := (dC, dI)) (ci := 5) (v := .int ((G 102) b7)) (C := RX5) (T := TX5) (N := 11) hx hb hts inX5 hown hK hP i3 hi3 rfl 2 (by decide) (hts (.fieldLink RX11 145 "SpellTurner$Reform" "lawCount" "I") ic_65) (fun _ h9 => h9) rfl dX11_uses_16 ?_
      refine lv_icmp_lt (tgt := 25) hx hb dX11_uses_19 (by decide) (fun c19 => ?_) (fun c19 => ?_)
      · replace hr := iteT c19 hr
        refine lv_aload_n hx hb dX11_uses_25 rfl (lv_at hl 1 rfl) ?_
        obtain ⟨i4, hi4⟩ := hW.o11 hk_this
        replace hr := nnS hr
        obtain ⟨a26, hn26, hr⟩ := hr
        have hk_a26 : kd a26 = 1 := hT.1 229 _ _ hn26
        refine va_get (D := (dC, dI)) (ci := 11) (v := .ref (ad a26)) (C := RX11) (T := TX11) (N := 17) hx hb hts inX11 hown hK hP i4 hi4 rfl 9 (by decide) (hts (.fieldLink RX11 67 "SpellTurner" "book" "LSpellTurner$Book;") ic_106) (fun _ h9 => h9) (congrArg (fun o => some (va_re ad o)) hn26) dX11_uses_26 ?_
        refine lv_iload_n hx hb dX11_uses_29 rfl (lv_at hl 2 rfl) ?_
        refine lv_iconst (v := 1) hx hb dX11_uses_30 (by decide +kernel) ?_
        refine lv_iadd hx hb dX11_uses_31 ?_
        refine lv_aload_n hx hb dX11_uses_32 rfl (lv_at hl 1 rfl) ?_
        obtain ⟨i5, hi5⟩ := hW.o11 hk_this
        replace hr := nnS hr
        obtain ⟨a33, hn33, hr⟩ := hr
        have hk_a33 : kd a33 = 302 := hT.1 221 _ _ hn33
        refine va_get (D := (dC, dI)) (ci := 11) (v := .ref (ad a33)) (C := RX11) (T := TX11) (N := 17) hx hb hts inX11 hown hK hP i5 hi5 rfl 1 (by decide) (hts (.fieldLink RX11 18 "SpellTurner" "reforms" "[LSpellTurner$Reform;") ic_56) (fun _ h9 => h9) (congrArg (fun o => some (va_re ad o)) hn33) dX11_uses_33 ?_
        refine lv_aload_n hx hb dX11_uses_36 rfl (lv_at hl 1 rfl) ?_
        obtain ⟨i6, hi6⟩ := hW.o11 hk_this
        replace hr := nnS hr
        obtain ⟨a37, hn37, hr⟩ := hr
        have hk_a37 : kd a37 = 10 := hT.1 226 _ _ hn37
        refine va_get (D := (dC, dI)) (ci := 11) (v := .ref (ad a37)) (C := RX11) (T := TX11) (N := 17) hx hb hts inX11 hown hK hP i6 hi6 rfl 6 (by decide) (hts (.fieldLink RX11 44 "SpellTurner" "turner" "LSpellTurner$Turner;") ic_340) (fun _ h9 => h9) (congrArg (fun o => some (va_re ad o)) hn37) dX11_uses_37 ?_
        replace hr := bA9S hr
        obtain ⟨c40_G, c40_P, c40_U, c40_V, c40_X, c40_O, c40_kd, c40_ln, c40_cnt, zv1, zv2, zw1, zw2, hc40, hr, hq1, hq2⟩ := hr
        have hFc := fr_all hD hS hA
        obtain ⟨i7, hi7⟩ := hW.o0 hk_a26
        refine va_callv (va_runV (As := [.int (p0 + 1), .ref (ad a33), .ref (ad a37)]) (rest := []) ⟨hx, hb, hml, hown, hts⟩ (m_X0_fill l dC dI kk ad H.size w2 G P U V X O kd ln cnt a26 (p0 + 1) a33 a37 hk_a26 hk_a33 hk_a37 hW hT c40_G c40_P c40_U c40_V c40_X c40_O c40_kd c40_ln c40_cnt zv1 zv2 hc40) (cwV 3 hts gc_RX11_X0_fill_211 rfl rfl rfl (by decide +kernel) ⟨Nat.le_of_ble_eq_true rfl, Nat.le_of_ble_eq_true rfl⟩) ⟨fun a U g mk q => by obtain ⟨q0, q1, qP, qK, qD⟩ := q; exact ⟨q0, q1, qP, va_K.moved (u := U) (U := U.calling g mk a) (Vm.Alike.refl U.vm) qK, qD⟩, va_recv hK hP (ci := 0) (q0 := i7) rfl hi7, fun U hU hW => ⟨rfl, by rw [hU], by rw [hU]; exact hP, va_K.moved hW.alike hK, hD.weaken (fun _ _ _ _ => trivial)⟩⟩ rfl rfl hl.1 rfl (lv_room (Nat.le_of_ble_eq_true rfl)) dX11_uses_40 ⟨(by show _ ≤ uc; omega), (by show _ ≤ us; omega)⟩) hS (fun q _ h => hFc q h) hFc (fun w8 t H1 locs ht hvm hw hB hz1 hk1 hS => ?_)
        obtain ⟨w8, ad40_8⟩ := w8
        dsimp only at hw hB
        obtain ⟨hW, hT, hE2⟩ := hw
        obtain ⟨hP1, hK1, hD1⟩ := hB
        rw [ht] at hP1
        obtain ⟨hP, hD⟩ := jn_all (w1 := w8) hFc hP1 hD1
        replace hP : va_P (dC, dI) vwCl w8 H1 := hP
        replace hD : va_D A w8 := hD
        clear hFc hP1 hK1 hD1 hk1 hz1 ht hvm
        generalize H1 = H at hP hS ⊢
        have ea_this : ad this = ad40_8 this := (hE2.1 this (by rw [hk_this]; decide)).symm
        have hk8_this := (hE2.2 this (by rw [hk_this]; decide)).trans hk_this
        have ea_b7 : ad b7 = ad40_8 b7 := (hE2.1 b7 (by rw [hk_b7]; decide)).symm
        have hk8_b7 := (hE2.2 b7 (by rw [hk_b7]; decide)).trans hk_b7
        rw [ea_this, ea_b7] at hl
        clear ea_this ea_b7
        replace hE := adE hE hE2
        clear hE2
        obtain ⟨ccn9, eccn9⟩ : ∃ y : Nat, y = (0 + zv1) := ⟨_, rfl⟩
        obtain ⟨csn9, ecsn9⟩ : ∃ y : Nat, y = (0 + zv2) := ⟨_, rfl⟩
        refine W.widen (k := ccn9) (n := csn9) (Nat.le_of_eq eccn9.symm) (Nat.le_of_eq ecsn9.symm) ?_
        replace hu1 : ccn9 + zw1 = uc := by omega
        replace hu2 : csn9 + zw2 = us := by omega
        clear eccn9 ecsn9
        refine lv_iconst (v := 0) hx hb dX11_uses_43 (by decide +kernel) ?_
        refine lv_istore (lv' := [(4, .int 0), (3, .ref (ad40_8 b7)), (0, .ref (ad40_8 this)), (1, .int p0), (2, .int p1)]) hx hb dX11_uses_44 hl (by decide) rfl (fun ls hl => ?_)
        refine lv_iconst (v := 0) hx hb dX11_uses_46 (by decide +kernel) ?_
        refine lv_istore (lv' := [(5, .int 0), (4, .int 0), (3, .ref (ad40_8 b7)), (0, .ref (ad40_8 this)), (1, .int p0), (2, .int p1)]) hx hb dX11_uses_47 hl (by decide) rfl (fun ls hl => ?_)
        have lp49 : ∀ (n49 : Nat), ∀ (y49_4 : Int32) (y49_5 : Int32) (ad40_8 : Nat → Nat) (ws : va_W) (H : Heap) (locs : List Loc) (ls : Array Slot) (cc cs u1 u2 : Nat), L_X11_uses_49 this p0 p1 c40_G c40_P c40_U c40_V c40_X c40_O c40_kd c40_ln c40_cnt n49 y49_4 y49_5 = some ((r, c_G, c_P, c_U, c_V, c_X, c_O, c_kd, c_ln, c_cnt), u1, u2) → cc + u1 = uc → cs + u2 = us → adEx kd ad c40_kd ad40_8 → LW ws ad40_8 kk c40_kd c40_ln c40_G c40_P c40_U c40_V c40_X c40_O → TYP c40_kd c40_P c40_O (c40_V 0) c40_cnt → va_P (dC, dI) vwCl ws H → va_D A ws → va_S A s.heap H locs → lv_has ls 6 [(0, .ref (ad40_8 this)), (1, .int p0), (2, .int p1), (4, .int y49_4), (5, .int y49_5)] → W p l e ({ frames := 49, cells := uc, slots := us, locals := 1273 } : Room) s m args below meth c H locs cc cs Q (F0 m 49 ls []) := by
          intro n49
          induction n49 with
          | zero => intro y49_4 y49_5 ad40_8 ws H locs ls cc cs u1 u2 hr hu1 hu2 hE hW hT hP hD hS hl; exact nomatch (show none = some ((r, c_G, c_P, c_U, c_V, c_X, c_O, c_kd, c_ln, c_cnt), u1, u2) from hr)
          | succ n49 ih49 =>
            intro y49_4 y49_5 ad40_8 ws H locs ls cc cs u1 u2 hr hu1 hu2 hE hW hT hP hD hS hl
            replace hr : B_X11_uses_49 this p0 p1 c40_G c40_P c40_U c40_V c40_X c40_O c40_kd c40_ln c40_cnt (L_X11_uses_49 this p0 p1 c40_G c40_P c40_U c40_V c40_X c40_O c40_kd c40_ln c40_cnt n49) y49_4 y49_5 = some ((r, c_G, c_P, c_U, c_V, c_X, c_O, c_kd, c_ln, c_cnt), u1, u2) := hr
            unfold B_X11_uses_49 at hr
            refine lv_iload hx hb dX11_uses_49 (lv_at hl 4 rfl) ?_
            refine lv_aload_n hx hb dX11_uses_51 rfl (lv_at hl 0 rfl) ?_
            obtain ⟨i10, hi10⟩ := hW.o11 hk8_this
            replace hr := nnS hr
            obtain ⟨a52, hn52, hr⟩ := hr
            have hk_a52 : c40_kd a52 = 1 := hT.1 229 _ _ hn52
            refine va_get (D := (dC, dI)) (ci := 11) (v := .ref (ad40_8 a52)) (C := RX11) (T := TX11) (N := 17) hx hb hts inX11 hown hK hP i10 hi10 rfl 9 (by decide) (hts (.fieldLink RX11 67 "SpellTurner" "book" "LSpellTurner$Book;") ic_106) (fun _ h9 => h9) (congrArg (fun o => some (va_re ad40_8 o)) hn52) dX11_uses_52 ?_
            obtain ⟨i11, hi11⟩ := hW.o0 hk_a52
            replace hr := nnS hr
            obtain ⟨a55, hn55, hr⟩ := hr
            have hk_a55 : c40_kd a55 = 11 := hT.1 0 _ _ hn55
            refine va_get (D := (dC, dI)) (ci := 0) (v := .ref (ad40_8 a55)) (C := RX0) (T := TX0) (N := 6) hx hb hts inX0 hown hK hP i11 hi11 rfl 0 (by decide) (hts (.fieldLink RX11 197 "SpellTurner$Book" "words" "LSpellTurner$WordRow;") ic_124) (fun _ h9 => h9) (congrArg (fun o => some (va_re ad40_8 o)) hn55) dX11_uses_55 ?_
            obtain ⟨i12, hi12⟩ := hW.o10 hk_a55
            refine va_get (D := (dC, dI)) (ci := 10) (v := .int ((c40_G 203) a55)) (C := RX10) (T := TX10) (N := 4) hx hb hts inX10 hown hK hP i12 hi12 rfl 3 (by decide) (hts (.fieldLink RX11 151 "SpellTurner$WordRow" "count" "I") ic_67) (fun _ h9 => h9) rfl dX11_uses_58 ?_
            refine lv_icmp_ge (tgt := 87) hx hb dX11_uses_61 (by decide) (fun c61 => ?_) (fun c61 => ?_)
            · replace hr := iteT c61 hr
              refine lv_iload hx hb dX11_uses_87 (lv_at hl 3 rfl) ?_
              replace hr := retS hr
              obtain ⟨hr, hv1, hv2⟩ := hr
              refine W.widen (k := uc) (n := us) (by omega) (by omega) ?_
              exact K 89 ls _ _ _ _ _ _ _ _ _ _ ad40_8 ws H _ hr dX11_uses_89 hE hW hT hP hD hS
            · replace hr := iteF c61 hr
              refine lv_aload_n hx hb dX11_uses_64 rfl (lv_at hl 0 rfl) ?_
              obtain ⟨i13, hi13⟩ := hW.o11 hk8_this
              replace hr := nnS hr
              obtain ⟨a65, hn65, hr⟩ := hr
              have hk_a65 : c40_kd a65 = 1 := hT.1 229 _ _ hn65
              refine va_get (D := (dC, dI)) (ci := 11) (v := .ref (ad40_8 a65)) (C := RX11) (T := TX11) (N := 17) hx hb hts inX11 hown hK hP i13 hi13 rfl 9 (by decide) (hts (.fieldLink RX11 67 "SpellTurner" "book" "LSpellTurner$Book;") ic_106) (fun _ h9 => h9) (congrArg (fun o => some (va_re ad40_8 o)) hn65) dX11_uses_65 ?_
              refine lv_iload_n hx hb dX11_uses_68 rfl (lv_at hl 1 rfl) ?_
              refine lv_iload hx hb dX11_uses_69 (lv_at hl 4 rfl) ?_
              refine lv_iload_n hx hb dX11_uses_71 rfl (lv_at hl 2 rfl) ?_
              replace hr := b1S hr
              obtain ⟨r72z, hc72, hr⟩ := hr
              have hFc := fr_all hD hS hA
              obtain ⟨i14, hi14⟩ := hW.o0 hk_a65
              refine va_calli (va_runV (As := [.int p0, .int y49_5, .int p1]) (rest := []) ⟨hx, hb, hml, hown, hts⟩ (m_X0_usesLaw l dC dI kk ad40_8 H.size ws c40_G c40_P c40_U c40_V c40_X c40_O c40_kd c40_ln c40_cnt a65 p0 y49_5 p1 hk_a65 hW hT r72z hc72) (cwV 3 hts gc_RX11_X0_usesLaw_236 rfl rfl rfl (by decide +kernel) ⟨Nat.le_of_ble_eq_true rfl, Nat.le_of_ble_eq_true rfl⟩) ⟨fun a U g mk q => by obtain ⟨q0, q1, qP, qK, qD⟩ := q; exact ⟨q0, q1, qP, va_K.moved (u := U) (U := U.calling g mk a) (Vm.Alike.refl U.vm) qK, qD⟩, va_recv hK hP (ci := 0) (q0 := i14) rfl hi14, fun U hU hW => ⟨rfl, by rw [hU], by rw [hU]; exact hP, va_K.moved hW.alike hK, hD.weaken (fun _ _ _ _ => trivial)⟩⟩ rfl rfl hl.1 rfl (lv_room (Nat.le_of_ble_eq_true rfl)) dX11_uses_72 ⟨(by show _ ≤ uc; omega), (by show _ ≤ us; omega)⟩) hS (fun q _ h => hFc q h) hFc (fun r72 w15 t H1 locs ht hvm hw hB hz1 hk1 hS => ?_)
              obtain ⟨hw0, hW, hT⟩ := hw
              replace hw0 : r72 = r72z := hw0
              subst hw0
              obtain ⟨hP1, hK1, hD1⟩ := hB
              rw [ht] at hP1
              obtain ⟨hP, hD⟩ := jn_all (w1 := w15) hFc hP1 hD1
              replace hP : va_P (dC, dI) vwCl w15 H1 := hP
              replace hD : va_D A w15 := hD
              clear hFc hP1 hK1 hD1 hk1 hz1 ht hvm
              generalize H1 = H at hP hS ⊢
              replace hr := jnS hr
              obtain ⟨j81, hj81, hr⟩ := hr
              have Jj81 : ∀ (x81_4 : Int32) (ad40_8 : Nat → Nat) (ws : va_W) (H : Heap) (locs : List Loc) (ls : Array Slot) (cc cs u1 u2 : Nat), j81 x81_4 = some ((r, c_G, c_P, c_U, c_V, c_X, c_O, c_kd, c_ln, c_cnt), u1, u2) → cc + u1 = uc → cs + u2 = us → adEx kd ad c40_kd ad40_8 → LW ws ad40_8 kk c40_kd c40_ln c40_G c40_P c40_U c40_V c40_X c40_O → TYP c40_kd c40_P c40_O (c40_V 0) c40_cnt → va_P (dC, dI) vwCl ws H → va_D A ws → va_S A s.heap H locs → lv_has ls 6 [(0, .ref (ad40_8 this)), (1, .int p0), (2, .int p1), (4, .int x81_4), (5, .int y49_5)] → W p l e ({ frames := 49, cells := uc, slots := us, locals := 1273 } : Room) s m args below meth c H locs cc cs Q (F0 m 81 ls []) := by
                intro x81_4 ad40_8 ws H locs ls cc cs u1 u2 hr hu1 hu2 hE hW hT hP hD hS hl
                rw [hj81] at hr
                refine lv_iinc (v := (y49_5 + 1)) (lv' := [(5, .int (y49_5 + 1)), (0, .ref (ad40_8 this)), (1, .int p0), (2, .int p1), (4, .int x81_4)]) hx hb dX11_uses_81 hl (k := 4) rfl rfl (by decide) rfl (fun ls hl => ?_)
                refine lv_goto (tgt := 49) hx hb dX11_uses_84 (by decide) ?_
                exact ih49 x81_4 (y49_5 + 1) ad40_8 ws H _ ls cc cs _ _ hr hu1 hu2 hE hW hT hP hD hS (lv_sub hl [1, 2, 3, 4, 0] rfl)
              refine lv_if_eq (tgt := 81) hx hb dX11_uses_75 (by decide) (fun c75 => ?_) (fun c75 => ?_)
              · replace hr := iteT c75 hr
                exact Jj81 y49_4 ad40_8 w15 H _ ls cc cs _ _ hr hu1 hu2 hE hW hT hP hD hS (lv_sub hl [0, 1, 2, 3, 4] rfl)
              · replace hr := iteF c75 hr
                refine lv_iinc (v := (y49_4 + 1)) (lv' := [(4, .int (y49_4 + 1)), (0, .ref (ad40_8 this)), (1, .int p0), (2, .int p1), (5, .int y49_5)]) hx hb dX11_uses_78 hl (k := 3) rfl rfl (by decide) rfl (fun ls hl => ?_)
                exact Jj81 (y49_4 + 1) ad40_8 w15 H _ ls cc cs _ _ hr hu1 hu2 hE hW hT hP hD hS (lv_sub hl [1, 2, 3, 0, 4] rfl)
        exact lp49 NN 0 0 ad40_8 w8 H _ ls ccn9 csn9 _ _ hr hu1 hu2 hE hW hT hP hD hS (lv_sub hl [3, 4, 5, 1, 0] rfl)
      · replace hr := iteF c19 hr
        exact Jj22 w2 H _ ls 0 0 _ _ hr hu1 hu2 hE hW hT hP hD hS (lv_sub hl [] rfl)
set_option maxHeartbeats 4000000 in
set_option maxRecDepth 100000 in
theorem m_X11_uses (l : Launch) (dC : Nat → ClassId) (dI : Nat → Nat → Nat) (kk : Nat → ClassId) (ad : Nat → Nat) (sz : Nat) (ws : va_W) (G : Nat → Nat → Int32) (P : Nat → Nat → Option Nat) (U : Nat → Nat → Int64) (V : Nat → Nat → Nat → Int32) (X : Nat → Nat → Nat → Int64) (O : Nat → Nat → Nat → Option Nat) (kd : Nat → Nat) (ln : Nat → Nat) (cnt : Nat) (this : Nat) (p0 : Int32) (p1 : Int32) (hk_this : kd this = 12) (hW : LW ws ad kk kd ln G P U V X O) (hT : TYP kd P O (V 0) cnt) (r : Int32) (c_G : Nat → Nat → Int32) (c_P : Nat → Nat → Option Nat) (c_U : Nat → Nat → Int64) (c_V : Nat → Nat → Nat → Int32) (c_X : Nat → Nat → Nat → Int64) (c_O : Nat → Nat → Nat → Option Nat) (c_kd : Nat → Nat) (c_ln : Nat → Nat) (c_cnt : Nat) (uc us : Nat) (hr : f_X11_uses G P U V X O kd ln cnt this p0 p1 = some ((r, c_G, c_P, c_U, c_V, c_X, c_O, c_kd, c_ln, c_cnt), uc, us)) : Met l yX11_uses vmX11_uses ({ frames := 49, cells := uc, slots := us, locals := 1273 } : Room) (va_Pc [.ref (ad this), .int p0, .int p1] (fun U => U.heap.size = sz ∧ va_P (dC, dI) vwCl ws U.heap ∧ va_K (dC, dI) vwCl (cT kk) U ∧ va_D (fun _ => True) ws)) (va_Qi (fun (rz : Int32) (x : (va_W × (Nat → Nat))) => rz = r ∧ LW x.1 x.2 kk c_kd c_ln c_G c_P c_U c_V c_X c_O ∧ TYP c_kd c_P c_O (c_V 0) c_cnt ∧ adEx kd ad c_kd x.2) (fun x t => va_P (dC, dI) vwCl x.1 t.heap ∧ va_K (dC, dI) vwCl (cT kk) t ∧ va_D (va_A ws sz) x.1) (va_A ws sz)) uc us (va_A ws sz) := by
  refine Met.ofW (cc := cX11_uses) (maxL := 6) (ret := (some .int)) (by decide) rfl ?_
  intro p e s m args below meth c s₁ B hml hv
  obtain ⟨rfl, hsz, hP, hK, hD0⟩ := hv
  have hx := B.exec
  have hb := B.bytes
  have hrt := B.returns
  have hts := atoms_spec (ws := vmX11_uses) B.pre
  have hown : s.vm.findClass RX11 = some m.cls := findClass_of_methodNamed B.named
  subst hsz
  have hD := hD0.self (sz := s.heap.size)
  generalize hAe : va_A ws s.heap.size = A at hD ⊢
  have hA : ∀ q : Nat, s.heap.size ≤ q → A q := fun q h => by rw [← hAe]; exact Or.inr h
  have hS : va_S A s.heap s.heap [] := va_S.rf
  have hl := lv_entry ([.ref (ad this), .int p0, .int p1]) (n := 6) (Nat.le_of_ble_eq_true rfl)
  rw [lg_entry_eq]
  generalize (lg_sl ([.ref (ad this), .int p0, .int p1]) ++ List.replicate (6 - (lg_sl ([.ref (ad this), .int p0, .int p1])).length) Slot.unset).toArray = ls at hl ⊢
  exact bm_X11_uses this p0 p1 hk_this r c_G c_P c_U c_V c_X c_O c_kd c_ln c_cnt uc us hr hx hb hml hown hts hA hK hW hT hP hD hS hl (fun pc ls rz c_Gz c_Pz c_Uz c_Vz c_Xz c_Oz c_kdz c_lnz c_cntz adz ws H locs he hd hE hW hT hP hD hS => by cases he; exact W.iret (v := r) hx hb hrt (fun t ht hW9 => ⟨⟨r, (ws, adz), rfl, ⟨rfl, hW, hT, hE⟩, by rw [ht]; exact hP, va_K.moved hW9.alike hK, hD⟩, hS.F ht⟩) hS.2.2 hd)
set_option maxHeartbeats 4000000 in
set_option maxRecDepth 100000 in
theorem bm_X11_mixed {p : Program} {l : Launch} {e : Env} {s : State} {m : MethodId} {args : Array Value} {below : List Frame} {meth : Method} {c : Code} {Q : State → Prop} {A : Nat → Prop} {dC : Nat → ClassId} {dI : Nat → Nat → Nat} {kk : Nat → ClassId} {ad : Nat → Nat} {ws : va_W} {G : Nat → Nat → Int32} {P : Nat → Nat → Option Nat} {U : Nat → Nat → Int64} {V : Nat → Nat → Nat → Int32} {X : Nat → Nat → Nat → Int64} {O : Nat → Nat → Nat → Option Nat} {kd : Nat → Nat} {ln : Nat → Nat} {cnt : Nat} {H : Heap} {locs : List Loc} {ls : Array Slot} (this : Nat) (p0 : Int32) (hk_this : kd this = 12) (r : Int32) (c_G : Nat → Nat → Int32) (c_P : Nat → Nat → Option Nat) (c_U : Nat → Nat → Int64) (c_V : Nat → Nat → Nat → Int32) (c_X : Nat → Nat → Nat → Int64) (c_O : Nat → Nat → Nat → Option Nat) (c_kd : Nat → Nat) (c_ln : Nat → Nat) (c_cnt : Nat) (uc us : Nat) (hr : f_X11_mixed G P U V X O kd ln cnt this p0 = some ((r, c_G, c_P, c_U, c_V, c_X, c_O, c_kd, c_ln, c_cnt), uc, us)) (hx : p.tables.exec = Jvm.exec) (hb : c.code = cX11_mixed) (hml : c.maxLocals = 5) (hown : s.vm.findClass RX11 = some m.cls) (hts : ∀ w ∈ vmX11_mixed, w.before args s = true) (hA : ∀ q : Nat, s.heap.size ≤ q → A q) (hK : va_K (dC, dI) vwCl (cT kk) s) (hW : LW ws ad kk kd ln G P U V X O) (hT : TYP kd P O (V 0) cnt) (hP : va_P (dC, dI) vwCl ws H) (hD : va_D A ws) (hS : va_S A s.heap H locs) (hl : lv_has ls 5 [(0, .ref (ad this)), (1, .int p0)])
    (K : ∀ (pc : Nat) (ls : Array Slot) (rz : Int32) (c_Gz : Nat → Nat → Int32) (c_Pz : Nat → Nat → Option Nat) (c_Uz : Nat → Nat → Int64) (c_Vz : Nat → Nat → Nat → Int32) (c_Xz : Nat → Nat → Nat → Int64) (c_Oz : Nat → Nat → Nat → Option Nat) (c_kdz : Nat → Nat) (c_lnz : Nat → Nat) (c_cntz : Nat) (adz : Nat → Nat) (ws : va_W) (H : Heap) (locs : List Loc), some (rz, c_Gz, c_Pz, c_Uz, c_Vz, c_Xz, c_Oz, c_kdz, c_lnz, c_cntz) = some (r, c_G, c_P, c_U, c_V, c_X, c_O, c_kd, c_ln, c_cnt) → decode cX11_mixed pc = .ok (.ireturn, 1) → adEx kd ad c_kdz adz → LW ws adz kk c_kdz c_lnz c_Gz c_Pz c_Uz c_Vz c_Xz c_Oz → TYP c_kdz c_Pz c_Oz (c_Vz 0) c_cntz → va_P (dC, dI) vwCl ws H → va_D A ws → va_S A s.heap H locs → W p l e ({ frames := 49, cells := uc, slots := us, locals := 1273 } : Room) s m args below meth c H locs uc us Q (F0 m pc ls [.int rz])) : W p l e ({ frames := 49, cells := uc, slots := us, locals := 1273 } : Room) s m args below meth c H locs 0 0 Q (F0 m 0 ls []) := by
  have hu1 : 0 + uc = uc := Nat.zero_add _
  have hu2 : 0 + us = us := Nat.zero_add _
  have hE : adEx kd ad kd ad := ⟨fun _ _ => rfl, fun _ _ => rfl⟩
  unfold f_X11_mixed at hr
  refine lv_aload_n hx hb dX11_mixed_0 rfl (lv_at hl 0 rfl) ?_
  obtain ⟨i1, hi1⟩ := hW.o11 hk_this
  replace hr := nnS hr
  obtain ⟨a1, hn1, hr⟩ := hr
  have hk_a1 : kd a1 = 8 := hT.1 220 _ _ hn1
  refine va_get (D := (dC, dI)) (ci := 11) (v := .ref (ad a1)) (C := RX11) (T := TX11) (N := 17) hx hb hts inX11 hown hK hP i1 hi1 rfl 0 (by decide) (hts (.fieldLink RX11 12 "SpellTurner" "tape" "LSpellTurner$Tape;") ic_48) (fun _ h9 => h9) (congrArg (fun o => some (va_re ad o)) hn1) dX11_mixed_1 ?_
  replace hr := b2S hr
  obtain ⟨r4z, c4_G141, hc4, hr⟩ := hr
  have hFc := fr_all hD hS hA
  obtain ⟨i2, hi2⟩ := hW.o7 hk_a1
  refine va_calli (va_runV (As := []) (rest := []) ⟨hx, hb, hml, hown, hts⟩ (m_X7_take l dC dI kk ad H.size ws G P U V X O kd ln cnt a1 hk_a1 hW hT r4z c4_G141 hc4) (cwV 0 hts gc_RX11_X7_take_112 rfl rfl rfl (by decide +kernel) ⟨Nat.le_of_ble_eq_true rfl, Nat.le_of_ble_eq_true rfl⟩) ⟨fun a U g mk q => by obtain ⟨q0, q1, qP, qK, qD⟩ := q; exact ⟨q0, q1, qP, va_K.moved (u := U) (U := U.calling g mk a) (Vm.Alike.refl U.vm) qK, qD⟩, va_recv hK hP (ci := 7) (q0 := i2) rfl hi2, fun U hU hW => ⟨rfl, by rw [hU], by rw [hU]; exact hP, va_K.moved hW.alike hK, hD.weaken (fun _ _ _ _ => trivial)⟩⟩ rfl rfl hl.1 rfl (lv_room (Nat.le_of_ble_eq_true rfl)) dX11_mixed_4 ⟨(by show _ ≤ uc; omega), (by show _ ≤ us; omega)⟩) hS (fun q _ h => hFc q h) hFc (fun r4 w3 t H1 locs ht hvm hw hB hz1 hk1 hS => ?_)
  obtain ⟨hw0, hW, hT⟩ := hw
  replace hw0 : r4 = r4z := hw0
  subst hw0
  obtain ⟨hP1, hK1, hD1⟩ := hB
  rw [ht] at hP1
  obtain ⟨hP, hD⟩ := jn_all (w1 := w3) hFc hP1 hD1
  replace hP : va_P (dC, dI) vwCl w3 H1 := hP
  replace hD : va_D A w3 := hD
  clear hFc hP1 hK1 hD1 hk1 hz1 ht hvm
  generalize H1 = H at hP hS ⊢
  refine lv_istore_n (lv' := [(2, .int r4), (0, .ref (ad this)), (1, .int p0)]) hx hb dX11_mixed_7 rfl hl (by decide) rfl (fun ls hl => ?_)
  refine lv_iload_n hx hb dX11_mixed_8 rfl (lv_at hl 2 rfl) ?_
  replace hr := jnS hr
  obtain ⟨j18, hj18, hr⟩ := hr
  have Jj18 : ∀ (ws : va_W) (H : Heap) (locs : List Loc) (ls : Array Slot) (cc cs u1 u2 : Nat), j18 () = some ((r, c_G, c_P, c_U, c_V, c_X, c_O, c_kd, c_ln, c_cnt), u1, u2) → cc + u1 = uc → cs + u2 = us → adEx kd ad kd ad → LW ws ad kk kd ln (va_up G 141 c4_G141) P U V X O → TYP kd P O (V 0) cnt → va_P (dC, dI) vwCl ws H → va_D A ws → va_S A s.heap H locs → lv_has ls 5 [] → W p l e ({ frames := 49, cells := uc, slots := us, locals := 1273 } : Room) s m args below meth c H locs cc cs Q (F0 m 18 ls []) := by
    intro ws H locs ls cc cs u1 u2 hr hu1 hu2 hE hW hT hP hD hS hl
    rw [hj18] at hr
    refine lv_bipush (v := (-2)) hx hb dX11_mixed_18 (by decide +kernel) ?_
    replace hr := retS hr
    obtain ⟨hr, hv1, hv2⟩ := hr
    refine W.widen (k := uc) (n := us) (by omega) (by omega) ?_
    exact K 20 ls _ _ _ _ _ _ _ _ _ _ ad ws H _ hr dX11_mixed_20 hE hW hT hP hD hS
  refine lv_if_lt (tgt := 18) hx hb dX11_mixed_9 (by decide) (fun c9 => ?_) (fun c9 => ?_)
  · replace hr := iteT c9 hr
    exact Jj18 w3 H _ ls 0 0 _ _ hr hu1 hu2 hE hW hT hP hD hS (lv_sub hl [] rfl)
  · replace hr := iteF c9 hr
    refine lv_iload_n hx hb dX11_mixed_12 rfl (lv_at hl 2 rfl) ?_
    refine lv_bipush (v := 50) hx hb dX11_mixed_13 (by decide +kernel) ?_
    refine lv_icmp_le (tgt := 21) hx hb dX11_mixed_15 (by decide) (fun c15 => ?_) (fun c15 => ?_)
    · replace hr := iteT c15 hr
      refine lv_aload_n hx hb dX11_mixed_21 rfl (lv_at hl 1 rfl) ?_
      obtain ⟨i4, hi4⟩ := hW.o11 hk_this
      replace hr := nnS hr
      obtain ⟨a22, hn22, hr⟩ := hr
      have hk_a22 : kd a22 = 8 := hT.1 220 _ _ hn22
      refine va_get (D := (dC, dI)) (ci := 11) (v := .ref (ad a22)) (C := RX11) (T := TX11) (N := 17) hx hb hts inX11 hown hK hP i4 hi4 rfl 0 (by decide) (hts (.fieldLink RX11 12 "SpellTurner" "tape" "LSpellTurner$Tape;") ic_48) (fun _ h9 => h9) (congrArg (fun o => some (va_re ad o)) hn22) dX11_mixed_22 ?_
      refine lv_iload_n hx hb dX11_mixed_25 rfl (lv_at hl 0 rfl) ?_
      replace hr := b1S hr
      obtain ⟨r26z, hc26, hr⟩ := hr
      have hFc := fr_all hD hS hA
      obtain ⟨i5, hi5⟩ := hW.o7 hk_a22
      refine va_calli (va_runV (As := [.int r4]) (rest := []) ⟨hx, hb, hml, hown, hts⟩ (m_X7_lines l dC dI kk ad H.size w3 (va_up G 141 c4_G141) P U V X O kd ln cnt a22 r4 hk_a22 hW hT r26z hc26) (cwV 1 hts gc_RX11_X7_lines_280 rfl rfl rfl (by decide +kernel) ⟨Nat.le_of_ble_eq_true rfl, Nat.le_of_ble_eq_true rfl⟩) ⟨fun a U g mk q => by obtain ⟨q0, q1, qP, qK, qD⟩ := q; exact ⟨q0, q1, qP, va_K.moved (u := U) (U := U.calling g mk a) (Vm.Alike.refl U.vm) qK, qD⟩, va_recv hK hP (ci := 7) (q0 := i5) rfl hi5, fun U hU hW => ⟨rfl, by rw [hU], by rw [hU]; exact hP, va_K.moved hW.alike hK, hD.weaken (fun _ _ _ _ => trivial)⟩⟩ rfl rfl hl.1 rfl (lv_room (Nat.le_of_ble_eq_true rfl)) dX11_mixed_26 ⟨(by show _ ≤ uc; omega), (by show _ ≤ us; omega)⟩) hS (fun q _ h => hFc q h) hFc (fun r26 w6 t H1 locs ht hvm hw hB hz1 hk1 hS => ?_)
      obtain ⟨hw0, hW, hT⟩ := hw
      replace hw0 : r26 = r26z := hw0
      subst hw0
      obtain ⟨hP1, hK1, hD1⟩ := hB
      rw [ht] at hP1
      obtain ⟨hP, hD⟩ := jn_all (w1 := w6) hFc hP1 hD1
      replace hP : va_P (dC, dI) vwCl w6 H1 := hP
      replace hD : va_D A w6 := hD
      clear hFc hP1 hK1 hD1 hk1 hz1 ht hvm
      generalize H1 = H at hP hS ⊢
      refine lv_istore_n (lv' := [(3, .int r26), (2, .int r4), (0, .ref (ad this)), (1, .int p0)]) hx hb dX11_mixed_29 rfl hl (by decide) rfl (fun ls hl => ?_)
      refine lv_aload_n hx hb dX11_mixed_30 rfl (lv_at hl 2 rfl) ?_
      obtain ⟨i7, hi7⟩ := hW.o11 hk_this
      replace hr := nnS hr
      obtain ⟨a31, hn31, hr⟩ := hr
      have hk_a31 : kd a31 = 8 := hT.1 220 _ _ hn31
      refine va_get (D := (dC, dI)) (ci := 11) (v := .ref (ad a31)) (C := RX11) (T := TX11) (N := 17) hx hb hts inX11 hown hK hP i7 hi7 rfl 0 (by decide) (hts (.fieldLink RX11 12 "SpellTurner" "tape" "LSpellTurner$Tape;") ic_48) (fun _ h9 => h9) (congrArg (fun o => some (va_re ad o)) hn31) dX11_mixed_31 ?_
      refine lv_iload_n hx hb dX11_mixed_34 rfl (lv_at hl 1 rfl) ?_
      replace hr := b1S hr
      obtain ⟨r35z, hc35, hr⟩ := hr
      have hFc := fr_all hD hS hA
      obtain ⟨i8, hi8⟩ := hW.o7 hk_a31
      refine va_calli (va_runV (As := [.int r4]) (rest := []) ⟨hx, hb, hml, hown, hts⟩ (m_X7_hasZero l dC dI kk ad H.size w6 (va_up G 141 c4_G141) P U V X O kd ln cnt a31 r4 hk_a31 hW hT r35z hc35) (cwV 1 hts gc_RX11_X7_hasZero_239 rfl rfl rfl (by decide +kernel) ⟨Nat.le_of_ble_eq_true rfl, Nat.le_of_ble_eq_true rfl⟩) ⟨fun a U g mk q => by obtain ⟨q0, q1, qP, qK, qD⟩ := q; exact ⟨q0, q1, qP, va_K.moved (u := U) (U := U.calling g mk a) (Vm.Alike.refl U.vm) qK, qD⟩, va_recv hK hP (ci := 7) (q0 := i8) rfl hi8, fun U hU hW => ⟨rfl, by rw [hU], by rw [hU]; exact hP, va_K.moved hW.alike hK, hD.weaken (fun _ _ _ _ => trivial)⟩⟩ rfl rfl hl.1 rfl (lv_room (Nat.le_of_ble_eq_true rfl)) dX11_mixed_35 ⟨(by show _ ≤ uc; omega), (by show _ ≤ us; omega)⟩) hS (fun q _ h => hFc q h) hFc (fun r35 w9 t H1 locs ht hvm hw hB hz1 hk1 hS => ?_)
      obtain ⟨hw0, hW, hT⟩ := hw
      replace hw0 : r35 = r35z := hw0
      subst hw0
      obtain ⟨hP1, hK1, hD1⟩ := hB
      rw [ht] at hP1
      obtain ⟨hP, hD⟩ := jn_all (w1 := w9) hFc hP1 hD1
      replace hP : va_P (dC, dI) vwCl w9 H1 := hP
      replace hD : va_D A w9 := hD
      clear hFc hP1 hK1 hD1 hk1 hz1 ht hvm
      generalize H1 = H at hP hS ⊢
      replace hr := jnS hr
      obtain ⟨j47, hj47, hr⟩ := hr
      have Jj47 : ∀ (ws : va_W) (H : Heap) (locs : List Loc) (ls : Array Slot) (cc cs u1 u2 : Nat), j47 () = some ((r, c_G, c_P, c_U, c_V, c_X, c_O, c_kd, c_ln, c_cnt), u1, u2) → cc + u1 = uc → cs + u2 = us → adEx kd ad kd ad → LW ws ad kk kd ln (va_up G 141 c4_G141) P U V X O → TYP kd P O (V 0) cnt → va_P (dC, dI) vwCl ws H → va_D A ws → va_S A s.heap H locs → lv_has ls 5 [] → W p l e ({ frames := 49, cells := uc, slots := us, locals := 1273 } : Room) s m args below meth c H locs cc cs Q (F0 m 47 ls []) := by
        intro ws H locs ls cc cs u1 u2 hr hu1 hu2 hE hW hT hP hD hS hl
        rw [hj47] at hr
        refine lv_iconst (v := (-1)) hx hb dX11_mixed_47 (by decide +kernel) ?_
        replace hr := retS hr
        obtain ⟨hr, hv1, hv2⟩ := hr
        refine W.widen (k := uc) (n := us) (by omega) (by omega) ?_
        exact K 48 ls _ _ _ _ _ _ _ _ _ _ ad ws H _ hr dX11_mixed_48 hE hW hT hP hD hS
      refine lv_if_ne (tgt := 47) hx hb dX11_mixed_38 (by decide) (fun c38 => ?_) (fun c38 => ?_)
      · replace hr := iteF c38 hr
        exact Jj47 w9 H _ ls 0 0 _ _ hr hu1 hu2 hE hW hT hP hD hS (lv_sub hl [] rfl)
      · replace hr := iteT c38 hr
        refine lv_iload_n hx hb dX11_mixed_41 rfl (lv_at hl 0 rfl) ?_
        refine lv_bipush (v := 40) hx hb dX11_mixed_42 (by decide +kernel) ?_
        refine lv_icmp_le (tgt := 49) hx hb dX11_mixed_44 (by decide) (fun c44 => ?_) (fun c44 => ?_)
        · replace hr := iteT c44 hr
          refine lv_aload_n hx hb dX11_mixed_49 rfl (lv_at hl 2 rfl) ?_
          obtain ⟨i10, hi10⟩ := hW.o11 hk_this
          replace hr := nnS hr
          obtain ⟨a50, hn50, hr⟩ := hr
          have hk_a50 : kd a50 = 1 := hT.1 229 _ _ hn50
          refine va_get (D := (dC, dI)) (ci := 11) (v := .ref (ad a50)) (C := RX11) (T := TX11) (N := 17) hx hb hts inX11 hown hK hP i10 hi10 rfl 9 (by decide) (hts (.fieldLink RX11 67 "SpellTurner" "book" "LSpellTurner$Book;") ic_106) (fun _ h9 => h9) (congrArg (fun o => some (va_re ad o)) hn50) dX11_mixed_50 ?_
          refine lv_aload_n hx hb dX11_mixed_53 rfl (lv_at hl 2 rfl) ?_
          obtain ⟨i11, hi11⟩ := hW.o11 hk_this
          refine va_get (D := (dC, dI)) (ci := 11) (v := .int ((G 222) this)) (C := RX11) (T := TX11) (N := 17) hx hb hts inX11 hown hK hP i11 hi11 rfl 2 (by decide) (hts (.fieldLink RX11 22 "SpellTurner" "reformCount" "I") ic_55) (fun _ h9 => h9) rfl dX11_mixed_54 ?_
          refine lv_aload_n hx hb dX11_mixed_57 rfl (lv_at hl 2 rfl) ?_
          obtain ⟨i12, hi12⟩ := hW.o11 hk_this
          replace hr := nnS hr
          obtain ⟨a58, hn58, hr⟩ := hr
          have hk_a58 : kd a58 = 302 := hT.1 221 _ _ hn58
          refine va_get (D := (dC, dI)) (ci := 11) (v := .ref (ad a58)) (C := RX11) (T := TX11) (N := 17) hx hb hts inX11 hown hK hP i12 hi12 rfl 1 (by decide) (hts (.fieldLink RX11 18 "SpellTurner" "reforms" "[LSpellTurner$Reform;") ic_56) (fun _ h9 => h9) (congrArg (fun o => some (va_re ad o)) hn58) dX11_mixed_58 ?_
          refine lv_aload_n hx hb dX11_mixed_61 rfl (lv_at hl 2 rfl) ?_
          obtain ⟨i13, hi13⟩ := hW.o11 hk_this
          replace hr := nnS hr
          obtain ⟨a62, hn62, hr⟩ := hr
          have hk_a62 : kd a62 = 10 := hT.1 226 _ _ hn62
          refine va_get (D := (dC, dI)) (ci := 11) (v := .ref (ad a62)) (C := RX11) (T := TX11) (N := 17) hx hb hts inX11 hown hK hP i13 hi13 rfl 6 (by decide) (hts (.fieldLink RX11 44 "SpellTurner" "turner" "LSpellTurner$Turner;") ic_340) (fun _ h9 => h9) (congrArg (fun o => some (va_re ad o)) hn62) dX11_mixed_62 ?_
          replace hr := bA9S hr
          obtain ⟨c65_G, c65_P, c65_U, c65_V, c65_X, c65_O, c65_kd, c65_ln, c65_cnt, zv1, zv2, zw1, zw2, hc65, hr, hq1, hq2⟩ := hr
          have hFc := fr_all hD hS hA
          obtain ⟨i14, hi14⟩ := hW.o0 hk_a50
          refine va_callv (va_runV (As := [.int ((G 222) this), .ref (ad a58), .ref (ad a62)]) (rest := []) ⟨hx, hb, hml, hown, hts⟩ (m_X0_fill l dC dI kk ad H.size w9 (va_up G 141 c4_G141) P U V X O kd ln cnt a50 ((G 222) this) a58 a62 hk_a50 hk_a58 hk_a62 hW hT c65_G c65_P c65_U c65_V c65_X c65_O c65_kd c65_ln c65_cnt zv1 zv2 hc65) (cwV 3 hts gc_RX11_X0_fill_211 rfl rfl rfl (by decide +kernel) ⟨Nat.le_of_ble_eq_true rfl, Nat.le_of_ble_eq_true rfl⟩) ⟨fun a U g mk q => by obtain ⟨q0, q1, qP, qK, qD⟩ := q; exact ⟨q0, q1, qP, va_K.moved (u := U) (U := U.calling g mk a) (Vm.Alike.refl U.vm) qK, qD⟩, va_recv hK hP (ci := 0) (q0 := i14) rfl hi14, fun U hU hW => ⟨rfl, by rw [hU], by rw [hU]; exact hP, va_K.moved hW.alike hK, hD.weaken (fun _ _ _ _ => trivial)⟩⟩ rfl rfl hl.1 rfl (lv_room (Nat.le_of_ble_eq_true rfl)) dX11_mixed_65 ⟨(by show _ ≤ uc; omega), (by show _ ≤ us; omega)⟩) hS (fun q _ h => hFc q h) hFc (fun w15 t H1 locs ht hvm hw hB hz1 hk1 hS => ?_)
          obtain ⟨w15, ad65_15⟩ := w15
          dsimp only at hw hB
          obtain ⟨hW, hT, hE2⟩ := hw
          obtain ⟨hP1, hK1, hD1⟩ := hB
          rw [ht] at hP1
          obtain ⟨hP, hD⟩ := jn_all (w1 := w15) hFc hP1 hD1
          replace hP : va_P (dC, dI) vwCl w15 H1 := hP
          replace hD : va_D A w15 := hD
          clear hFc hP1 hK1 hD1 hk1 hz1 ht hvm
          generalize H1 = H at hP hS ⊢
          have ea_this : ad this = ad65_15 this := (hE2.1 this (by rw [hk_this]; decide)).symm
          have hk15_this := (hE2.2 this (by rw [hk_this]; decide)).trans hk_this
          rw [ea_this] at hl
          clear ea_this
          replace hE := adE hE hE2
          clear hE2
          obtain ⟨ccn16, eccn16⟩ : ∃ y : Nat, y = (0 + zv1) := ⟨_, rfl⟩
          obtain ⟨csn16, ecsn16⟩ : ∃ y : Nat, y = (0 + zv2) := ⟨_, rfl⟩
          refine W.widen (k := ccn16) (n := csn16) (Nat.le_of_eq eccn16.symm) (Nat.le_of_eq ecsn16.symm) ?_
          replace hu1 : ccn16 + zw1 = uc := by omega
          replace hu2 : csn16 + zw2 = us := by omega
          clear eccn16 ecsn16
          refine lv_aload_n hx hb dX11_mixed_68 rfl (lv_at hl 2 rfl) ?_
          obtain ⟨i17, hi17⟩ := hW.o11 hk15_this
          replace hr := nnS hr
          obtain ⟨a69, hn69, hr⟩ := hr
          have hk_a69 : c65_kd a69 = 3 := hT.1 236 _ _ hn69
          refine va_get (D := (dC, dI)) (ci := 11) (v := .ref (ad65_15 a69)) (C := RX11) (T := TX11) (N := 17) hx hb hts inX11 hown hK hP i17 hi17 rfl 16 (by decide) (hts (.fieldLink RX11 101 "SpellTurner" "mixture" "LSpellTurner$Mixture;") ic_114) (fun _ h9 => h9) (congrArg (fun o => some (va_re ad65_15 o)) hn69) dX11_mixed_69 ?_
          refine lv_iload_n hx hb dX11_mixed_72 rfl (lv_at hl 0 rfl) ?_
          refine lv_aload_n hx hb dX11_mixed_73 rfl (lv_at hl 2 rfl) ?_
          obtain ⟨i18, hi18⟩ := hW.o11 hk15_this
          refine va_get (D := (dC, dI)) (ci := 11) (v := .int ((c65_G 222) this)) (C := RX11) (T := TX11) (N := 17) hx hb hts inX11 hown hK hP i18 hi18 rfl 2 (by decide) (hts (.fieldLink RX11 22 "SpellTurner" "reformCount" "I") ic_55) (fun _ h9 => h9) rfl dX11_mixed_74 ?_
          refine lv_iconst (v := 1) hx hb dX11_mixed_77 (by decide +kernel) ?_
          refine lv_iadd hx hb dX11_mixed_78 ?_
          replace hr := b3S hr
          obtain ⟨c79_G44, c79_G45, c79_V7, hc79, hr⟩ := hr
          have hFc := fr_all hD hS hA
          obtain ⟨i19, hi19⟩ := hW.o2 hk_a69
          refine va_callv (va_runV (As := [.int r26, .int (((c65_G 222) this) + 1)]) (rest := []) ⟨hx, hb, hml, hown, hts⟩ (m_X2_begin l dC dI kk ad65_15 H.size w15 c65_G c65_P c65_U c65_V c65_X c65_O c65_kd c65_ln c65_cnt a69 r26 (((c65_G 222) this) + 1) hk_a69 hW hT c79_G44 c79_G45 c79_V7 hc79) (cwV 2 hts gc_RX11_X2_begin_283 rfl rfl rfl (by decide +kernel) ⟨Nat.le_of_ble_eq_true rfl, Nat.le_of_ble_eq_true rfl⟩) ⟨fun a U g mk q => by obtain ⟨q0, q1, qP, qK, qD⟩ := q; exact ⟨q0, q1, qP, va_K.moved (u := U) (U := U.calling g mk a) (Vm.Alike.refl U.vm) qK, qD⟩, va_recv hK hP (ci := 2) (q0 := i19) rfl hi19, fun U hU hW => ⟨rfl, by rw [hU], by rw [hU]; exact hP, va_K.moved hW.alike hK, hD.weaken (fun _ _ _ _ => trivial)⟩⟩ rfl rfl hl.1 rfl (lv_room (Nat.le_of_ble_eq_true rfl)) dX11_mixed_79 ⟨(by show _ ≤ uc; omega), (by show _ ≤ us; omega)⟩) hS (fun q _ h => hFc q h) hFc (fun w20 t H1 locs ht hvm hw hB hz1 hk1 hS => ?_)
          obtain ⟨hW, hT⟩ := hw
          obtain ⟨hP1, hK1, hD1⟩ := hB
          rw [ht] at hP1
          obtain ⟨hP, hD⟩ := jn_all (w1 := w20) hFc hP1 hD1
          replace hP : va_P (dC, dI) vwCl w20 H1 := hP
          replace hD : va_D A w20 := hD
          clear hFc hP1 hK1 hD1 hk1 hz1 ht hvm
          generalize H1 = H at hP hS ⊢
          refine lv_aload_n hx hb dX11_mixed_82 rfl (lv_at hl 2 rfl) ?_
          obtain ⟨i21, hi21⟩ := hW.o11 hk15_this
          replace hr := nnS hr
          obtain ⟨a83, hn83, hr⟩ := hr
          have hk_a83 : c65_kd a83 = 9 := hT.1 234 _ _ hn83
          refine va_get (D := (dC, dI)) (ci := 11) (v := .ref (ad65_15 a83)) (C := RX11) (T := TX11) (N := 17) hx hb hts inX11 hown hK hP i21 hi21 rfl 14 (by decide) (hts (.fieldLink RX11 87 "SpellTurner" "textWords" "LSpellTurner$TextWords;") ic_108) (fun _ h9 => h9) (congrArg (fun o => some (va_re ad65_15 o)) hn83) dX11_mixed_83 ?_
          refine lv_aload_n hx hb dX11_mixed_86 rfl (lv_at hl 2 rfl) ?_
          obtain ⟨i22, hi22⟩ := hW.o11 hk15_this
          replace hr := nnS hr
          obtain ⟨a87, hn87, hr⟩ := hr
          have hk_a87 : c65_kd a87 = 8 := hT.1 220 _ _ hn87
          refine va_get (D := (dC, dI)) (ci := 11) (v := .ref (ad65_15 a87)) (C := RX11) (T := TX11) (N := 17) hx hb hts inX11 hown hK hP i22 hi22 rfl 0 (by decide) (hts (.fieldLink RX11 12 "SpellTurner" "tape" "LSpellTurner$Tape;") ic_48) (fun _ h9 => h9) (congrArg (fun o => some (va_re ad65_15 o)) hn87) dX11_mixed_87 ?_
          obtain ⟨i23, hi23⟩ := hW.o7 hk_a87
          replace hr := nnS hr
          obtain ⟨a90, hn90, hr⟩ := hr
          have hk_a90 : c65_kd a90 = 100 := hT.1 140 _ _ hn90
          refine va_get (D := (dC, dI)) (ci := 7) (v := .ref (ad65_15 a90)) (C := RX7) (T := TX7) (N := 2) hx hb hts inX7 hown hK hP i23 hi23 rfl 0 (by decide) (hts (.fieldLink RX11 120 "SpellTurner$Tape" "bytes" "[B") ic_107) (fun _ h9 => h9) (congrArg (fun o => some (va_re ad65_15 o)) hn90) dX11_mixed_90 ?_
          refine lv_iload_n hx hb dX11_mixed_93 rfl (lv_at hl 1 rfl) ?_
          replace hr := b5S hr
          obtain ⟨c94_G162, c94_G165, c94_G166, c94_G167, c94_P164, hc94, hr⟩ := hr
          have hFc := fr_all hD hS hA
          obtain ⟨i24, hi24⟩ := hW.o8 hk_a83
          refine va_callv (va_runV (As := [.ref (ad65_15 a90), .int r4]) (rest := []) ⟨hx, hb, hml, hown, hts⟩ (m_X8_begin l dC dI kk ad65_15 H.size w20 (va_up (va_up c65_G 44 c79_G44) 45 c79_G45) c65_P c65_U (va_up c65_V 7 c79_V7) c65_X c65_O c65_kd c65_ln c65_cnt a83 a90 r4 hk_a83 hk_a90 hW hT c94_G162 c94_G165 c94_G166 c94_G167 c94_P164 hc94) (cwV 2 hts gc_RX11_X8_begin_242 rfl rfl rfl (by decide +kernel) ⟨Nat.le_of_ble_eq_true rfl, Nat.le_of_ble_eq_true rfl⟩) ⟨fun a U g mk q => by obtain ⟨q0, q1, qP, qK, qD⟩ := q; exact ⟨q0, q1, qP, va_K.moved (u := U) (U := U.calling g mk a) (Vm.Alike.refl U.vm) qK, qD⟩, va_recv hK hP (ci := 8) (q0 := i24) rfl hi24, fun U hU hW => ⟨rfl, by rw [hU], by rw [hU]; exact hP, va_K.moved hW.alike hK, hD.weaken (fun _ _ _ _ => trivial)⟩⟩ rfl rfl hl.1 rfl (lv_room (Nat.le_of_ble_eq_true rfl)) dX11_mixed_94 ⟨(by show _ ≤ uc; omega), (by show _ ≤ us; omega)⟩) hS (fun q _ h => hFc q h) hFc (fun w25 t H1 locs ht hvm hw hB hz1 hk1 hS => ?_)
          obtain ⟨hW, hT⟩ := hw
          obtain ⟨hP1, hK1, hD1⟩ := hB
          rw [ht] at hP1
          obtain ⟨hP, hD⟩ := jn_all (w1 := w25) hFc hP1 hD1
          replace hP : va_P (dC, dI) vwCl w25 H1 := hP
          replace hD : va_D A w25 := hD
          clear hFc hP1 hK1 hD1 hk1 hz1 ht hvm
          generalize H1 = H at hP hS ⊢
          refine lv_iconst (v := 0) hx hb dX11_mixed_97 (by decide +kernel) ?_
          refine lv_istore (lv' := [(4, .int 0), (3, .int r26), (2, .int r4), (0, .ref (ad65_15 this)), (1, .int p0)]) hx hb dX11_mixed_98 hl (by decide) rfl (fun ls hl => ?_)
          replace hr := jnS hr
          obtain ⟨k136, hk136, hr⟩ := hr
          have Jk136 : ∀ (c136_G160 : Nat → Int32) (c136_G161 : Nat → Int32) (c136_G162 : Nat → Int32) (c136_G163 : Nat → Int32) (c136_G166 : Nat → Int32) (c136_G167 : Nat → Int32) (c136_V7 : Nat → Nat → Int32) (ad65_15 : Nat → Nat) (ws : va_W) (H : Heap) (locs : List Loc) (ls : Array Slot) (cc cs u1 u2 : Nat), k136 c136_G160 c136_G161 c136_G162 c136_G163 c136_G166 c136_G167 c136_V7 = some ((r, c_G, c_P, c_U, c_V, c_X, c_O, c_kd, c_ln, c_cnt), u1, u2) → cc + u1 = uc → cs + u2 = us → adEx kd ad c65_kd ad65_15 → LW ws ad65_15 kk c65_kd c65_ln (va_up (va_up (va_up (va_up (va_up (va_up (va_up (va_up (va_up c65_G 44 c79_G44) 45 c79_G45) 160 c136_G160) 161 c136_G161) 162 c136_G162) 163 c136_G163) 165 c94_G165) 166 c136_G166) 167 c136_G167) (va_up c65_P 164 c94_P164) c65_U (va_up c65_V 7 c136_V7) c65_X c65_O → TYP c65_kd (va_up c65_P 164 c94_P164) c65_O (c65_V 0) c65_cnt → va_P (dC, dI) vwCl ws H → va_D A ws → va_S A s.heap H locs → lv_has ls 5 [(0, .ref (ad65_15 this)), (1, .int p0)] → W p l e ({ frames := 49, cells := uc, slots := us, locals := 1273 } : Room) s m args below meth c H locs cc cs Q (F0 m 136 ls []) := by
            intro c136_G160 c136_G161 c136_G162 c136_G163 c136_G166 c136_G167 c136_V7 ad65_15 ws H locs ls cc cs u1 u2 hr hu1 hu2 hE hW hT hP hD hS hl
            rw [hk136] at hr
            refine lv_aload_n hx hb dX11_mixed_136 rfl (lv_at hl 0 rfl) ?_
            obtain ⟨i26, hi26⟩ := hW.o11 hk15_this
            replace hr := nnS hr
            obtain ⟨a137, hn137, hr⟩ := hr
            have hk_a137 : c65_kd a137 = 3 := hT.1 236 _ _ hn137
            refine va_get (D := (dC, dI)) (ci := 11) (v := .ref (ad65_15 a137)) (C := RX11) (T := TX11) (N := 17) hx hb hts inX11 hown hK hP i26 hi26 rfl 16 (by decide) (hts (.fieldLink RX11 101 "SpellTurner" "mixture" "LSpellTurner$Mixture;") ic_114) (fun _ h9 => h9) (congrArg (fun o => some (va_re ad65_15 o)) hn137) dX11_mixed_137 ?_
            refine lv_iload_n hx hb dX11_mixed_140 rfl (lv_at hl 1 rfl) ?_
            replace hr := b4S hr
            obtain ⟨r141z, c141_G43, c141_V8, c141_V9, hc141, hr⟩ := hr
            have hFc := fr_all hD hS hA
            obtain ⟨i27, hi27⟩ := hW.o2 hk_a137
            refine va_calli (va_runV (As := [.int p0]) (rest := []) ⟨hx, hb, hml, hown, hts⟩ (m_X2_settle l dC dI kk ad65_15 H.size ws (va_up (va_up (va_up (va_up (va_up (va_up (va_up (va_up (va_up c65_G 44 c79_G44) 45 c79_G45) 160 c136_G160) 161 c136_G161) 162 c136_G162) 163 c136_G163) 165 c94_G165) 166 c136_G166) 167 c136_G167) (va_up c65_P 164 c94_P164) c65_U (va_up c65_V 7 c136_V7) c65_X c65_O c65_kd c65_ln c65_cnt a137 p0 hk_a137 hW hT r141z c141_G43 c141_V8 c141_V9 hc141) (cwV 1 hts gc_RX11_X2_settle_288 rfl rfl rfl (by decide +kernel) ⟨Nat.le_of_ble_eq_true rfl, Nat.le_of_ble_eq_true rfl⟩) ⟨fun a U g mk q => by obtain ⟨q0, q1, qP, qK, qD⟩ := q; exact ⟨q0, q1, qP, va_K.moved (u := U) (U := U.calling g mk a) (Vm.Alike.refl U.vm) qK, qD⟩, va_recv hK hP (ci := 2) (q0 := i27) rfl hi27, fun U hU hW => ⟨rfl, by rw [hU], by rw [hU]; exact hP, va_K.moved hW.alike hK, hD.weaken (fun _ _ _ _ => trivial)⟩⟩ rfl rfl hl.1 rfl (lv_room (Nat.le_of_ble_eq_true rfl)) dX11_mixed_141 ⟨(by show _ ≤ uc; omega), (by show _ ≤ us; omega)⟩) hS (fun q _ h => hFc q h) hFc (fun r141 w28 t H1 locs ht hvm hw hB hz1 hk1 hS => ?_)
            obtain ⟨hw0, hW, hT⟩ := hw
            replace hw0 : r141 = r141z := hw0
            subst hw0
            obtain ⟨hP1, hK1, hD1⟩ := hB
            rw [ht] at hP1
            obtain ⟨hP, hD⟩ := jn_all (w1 := w28) hFc hP1 hD1
            replace hP : va_P (dC, dI) vwCl w28 H1 := hP
            replace hD : va_D A w28 := hD
            clear hFc hP1 hK1 hD1 hk1 hz1 ht hvm
            generalize H1 = H at hP hS ⊢
            replace hr := retS hr
            obtain ⟨hr, hv1, hv2⟩ := hr
            refine W.widen (k := uc) (n := us) (by omega) (by omega) ?_
            exact K 144 ls _ _ _ _ _ _ _ _ _ _ ad65_15 w28 H _ hr dX11_mixed_144 hE hW hT hP hD hS
          have lp100 : ∀ (n100 : Nat), ∀ (y100_4 : Int32) (d100_G160 : Nat → Int32) (d100_G161 : Nat → Int32) (d100_G162 : Nat → Int32) (d100_G163 : Nat → Int32) (d100_G166 : Nat → Int32) (d100_G167 : Nat → Int32) (d100_V7 : Nat → Nat → Int32) (ad65_15 : Nat → Nat) (ws : va_W) (H : Heap) (locs : List Loc) (ls : Array Slot) (cc cs u1 u2 : Nat), L_X11_mixed_100 this r4 c65_G c65_P c65_U c65_V c65_X c65_O c65_kd c65_ln c65_cnt c79_G44 c79_G45 c94_G165 c94_P164 k136 n100 y100_4 d100_G160 d100_G161 d100_G162 d100_G163 d100_G166 d100_G167 d100_V7 = some ((r, c_G, c_P, c_U, c_V, c_X, c_O, c_kd, c_ln, c_cnt), u1, u2) → cc + u1 = uc → cs + u2 = us → adEx kd ad c65_kd ad65_15 → LW ws ad65_15 kk c65_kd c65_ln (va_up (va_up (va_up (va_up (va_up (va_up (va_up (va_up (va_up c65_G 44 c79_G44) 45 c79_G45) 160 d100_G160) 161 d100_G161) 162 d100_G162) 163 d100_G163) 165 c94_G165) 166 d100_G166) 167 d100_G167) (va_up c65_P 164 c94_P164) c65_U (va_up c65_V 7 d100_V7) c65_X c65_O → TYP c65_kd (va_up c65_P 164 c94_P164) c65_O (c65_V 0) c65_cnt → va_P (dC, dI) vwCl ws H → va_D A ws → va_S A s.heap H locs → lv_has ls 5 [(0, .ref (ad65_15 this)), (1, .int p0), (2, .int r4), (4, .int y100_4)] → W p l e ({ frames := 49, cells := uc, slots := us, locals := 1273 } : Room) s m args below meth c H locs cc cs Q (F0 m 100 ls []) := by
            intro n100
            induction n100 with
            | zero => intro y100_4 d100_G160 d100_G161 d100_G162 d100_G163 d100_G166 d100_G167 d100_V7 ad65_15 ws H locs ls cc cs u1 u2 hr hu1 hu2 hE hW hT hP hD hS hl; exact nomatch (show none = some ((r, c_G, c_P, c_U, c_V, c_X, c_O, c_kd, c_ln, c_cnt), u1, u2) from hr)
            | succ n100 ih100 =>
              intro y100_4 d100_G160 d100_G161 d100_G162 d100_G163 d100_G166 d100_G167 d100_V7 ad65_15 ws H locs ls cc cs u1 u2 hr hu1 hu2 hE hW hT hP hD hS hl
              replace hr : B_X11_mixed_100 this r4 c65_G c65_P c65_U c65_V c65_X c65_O c65_kd c65_ln c65_cnt c79_G44 c79_G45 c94_G165 c94_P164 k136 (L_X11_mixed_100 this r4 c65_G c65_P c65_U c65_V c65_X c65_O c65_kd c65_ln c65_cnt c79_G44 c79_G45 c94_G165 c94_P164 k136 n100) y100_4 d100_G160 d100_G161 d100_G162 d100_G163 d100_G166 d100_G167 d100_V7 = some ((r, c_G, c_P, c_U, c_V, c_X, c_O, c_kd, c_ln, c_cnt), u1, u2) := hr
              unfold B_X11_mixed_100 at hr
              refine lv_iload hx hb dX11_mixed_100 (lv_at hl 3 rfl) ?_
              refine lv_iload_n hx hb dX11_mixed_102 rfl (lv_at hl 2 rfl) ?_
              refine lv_icmp_ge (tgt := 136) hx hb dX11_mixed_103 (by decide) (fun c103 => ?_) (fun c103 => ?_)
              · replace hr := iteT c103 hr
                exact Jk136 d100_G160 d100_G161 d100_G162 d100_G163 d100_G166 d100_G167 d100_V7 ad65_15 ws H _ ls cc cs _ _ hr hu1 hu2 hE hW hT hP hD hS (lv_sub hl [0, 1] rfl)
              · replace hr := iteF c103 hr
                refine lv_aload_n hx hb dX11_mixed_106 rfl (lv_at hl 0 rfl) ?_
                obtain ⟨i29, hi29⟩ := hW.o11 hk15_this
                replace hr := nnS hr
                obtain ⟨a107, hn107, hr⟩ := hr
                have hk_a107 : c65_kd a107 = 9 := hT.1 234 _ _ hn107
                refine va_get (D := (dC, dI)) (ci := 11) (v := .ref (ad65_15 a107)) (C := RX11) (T := TX11) (N := 17) hx hb hts inX11 hown hK hP i29 hi29 rfl 14 (by decide) (hts (.fieldLink RX11 87 "SpellTurner" "textWords" "LSpellTurner$TextWords;") ic_108) (fun _ h9 => h9) (congrArg (fun o => some (va_re ad65_15 o)) hn107) dX11_mixed_107 ?_
                replace hr := b7S hr
                obtain ⟨r110z, c110_G160, c110_G161, c110_G162, c110_G163, c110_G166, c110_G167, hc110, hr⟩ := hr
                have hFc := fr_all hD hS hA
                obtain ⟨i30, hi30⟩ := hW.o8 hk_a107
                refine va_calli (va_runV (As := []) (rest := []) ⟨hx, hb, hml, hown, hts⟩ (m_X8_next l dC dI kk ad65_15 H.size ws (va_up (va_up (va_up (va_up (va_up (va_up (va_up (va_up (va_up c65_G 44 c79_G44) 45 c79_G45) 160 d100_G160) 161 d100_G161) 162 d100_G162) 163 d100_G163) 165 c94_G165) 166 d100_G166) 167 d100_G167) (va_up c65_P 164 c94_P164) c65_U (va_up c65_V 7 d100_V7) c65_X c65_O c65_kd c65_ln c65_cnt a107 hk_a107 hW hT r110z c110_G160 c110_G161 c110_G162 c110_G163 c110_G166 c110_G167 hc110) (cwV 0 hts gc_RX11_X8_next_248 rfl rfl rfl (by decide +kernel) ⟨Nat.le_of_ble_eq_true rfl, Nat.le_of_ble_eq_true rfl⟩) ⟨fun a U g mk q => by obtain ⟨q0, q1, qP, qK, qD⟩ := q; exact ⟨q0, q1, qP, va_K.moved (u := U) (U := U.calling g mk a) (Vm.Alike.refl U.vm) qK, qD⟩, va_recv hK hP (ci := 8) (q0 := i30) rfl hi30, fun U hU hW => ⟨rfl, by rw [hU], by rw [hU]; exact hP, va_K.moved hW.alike hK, hD.weaken (fun _ _ _ _ => trivial)⟩⟩ rfl rfl hl.1 rfl (lv_room (Nat.le_of_ble_eq_true rfl)) dX11_mixed_110 ⟨(by show _ ≤ uc; omega), (by show _ ≤ us; omega)⟩) hS (fun q _ h => hFc q h) hFc (fun r110 w31 t H1 locs ht hvm hw hB hz1 hk1 hS => ?_)
                obtain ⟨hw0, hW, hT⟩ := hw
                replace hw0 : r110 = r110z := hw0
                subst hw0
                obtain ⟨hP1, hK1, hD1⟩ := hB
                rw [ht] at hP1
                obtain ⟨hP, hD⟩ := jn_all (w1 := w31) hFc hP1 hD1
                replace hP : va_P (dC, dI) vwCl w31 H1 := hP
                replace hD : va_D A w31 := hD
                clear hFc hP1 hK1 hD1 hk1 hz1 ht hvm
                generalize H1 = H at hP hS ⊢
                refine lv_if_eq (tgt := 136) hx hb dX11_mixed_113 (by decide) (fun c113 => ?_) (fun c113 => ?_)
                · replace hr := iteT c113 hr
                  have eG : (va_up (va_up (va_up (va_up (va_up (va_up (va_up (va_up (va_up (va_up (va_up (va_up (va_up (va_up (va_up c65_G 44 c79_G44) 45 c79_G45) 160 d100_G160) 161 d100_G161) 162 d100_G162) 163 d100_G163) 165 c94_G165) 166 d100_G166) 167 d100_G167) 160 c110_G160) 161 c110_G161) 162 c110_G162) 163 c110_G163) 166 c110_G166) 167 c110_G167) = (va_up (va_up (va_up (va_up (va_up (va_up (va_up (va_up (va_up c65_G 44 c79_G44) 45 c79_G45) 160 c110_G160) 161 c110_G161) 162 c110_G162) 163 c110_G163) 165 c94_G165) 166 c110_G166) 167 c110_G167) := by
                    funext k
                    by_cases h44 : k = 44
                    · subst h44; rfl
                    by_cases h45 : k = 45
                    · subst h45; rfl
                    by_cases h160 : k = 160
                    · subst h160; rfl
                    by_cases h161 : k = 161
                    · subst h161; rfl
                    by_cases h162 : k = 162
                    · subst h162; rfl
                    by_cases h163 : k = 163
                    · subst h163; rfl
                    by_cases h165 : k = 165
                    · subst h165; rfl
                    by_cases h166 : k = 166
                    · subst h166; rfl
                    by_cases h167 : k = 167
                    · subst h167; rfl
                    · simp only [va_up, h44, h45, h160, h161, h162, h163, h165, h166, h167, if_false]
                  rw [eG] at hW
                  clear eG
                  exact Jk136 c110_G160 c110_G161 c110_G162 c110_G163 c110_G166 c110_G167 d100_V7 ad65_15 w31 H _ ls cc cs _ _ hr hu1 hu2 hE hW hT hP hD hS (lv_sub hl [0, 1] rfl)
                · replace hr := iteF c113 hr
                  refine lv_aload_n hx hb dX11_mixed_116 rfl (lv_at hl 0 rfl) ?_
                  obtain ⟨i32, hi32⟩ := hW.o11 hk15_this
                  replace hr := nnS hr
                  obtain ⟨a117, hn117, hr⟩ := hr
                  have hk_a117 : c65_kd a117 = 9 := hT.1 234 _ _ hn117
                  refine va_get (D := (dC, dI)) (ci := 11) (v := .ref (ad65_15 a117)) (C := RX11) (T := TX11) (N := 17) hx hb hts inX11 hown hK hP i32 hi32 rfl 14 (by decide) (hts (.fieldLink RX11 87 "SpellTurner" "textWords" "LSpellTurner$TextWords;") ic_108) (fun _ h9 => h9) (congrArg (fun o => some (va_re ad65_15 o)) hn117) dX11_mixed_117 ?_
                  obtain ⟨i33, hi33⟩ := hW.o8 hk_a117
                  refine va_get (D := (dC, dI)) (ci := 8) (v := .int (c110_G163 a117)) (C := RX8) (T := TX8) (N := 8) hx hb hts inX8 hown hK hP i33 hi33 rfl 3 (by decide) (hts (.fieldLink RX11 251 "SpellTurner$TextWords" "isName" "Z") ic_484) (fun _ h9 => h9) rfl dX11_mixed_120 ?_
                  replace hr := jnS hr
                  obtain ⟨j130, hj130, hr⟩ := hr
                  have Jj130 : ∀ (c130_V7 : Nat → Nat → Int32) (ad65_15 : Nat → Nat) (ws : va_W) (H : Heap) (locs : List Loc) (ls : Array Slot) (cc cs u1 u2 : Nat), j130 c130_V7 = some ((r, c_G, c_P, c_U, c_V, c_X, c_O, c_kd, c_ln, c_cnt), u1, u2) → cc + u1 = uc → cs + u2 = us → adEx kd ad c65_kd ad65_15 → LW ws ad65_15 kk c65_kd c65_ln (va_up (va_up (va_up (va_up (va_up (va_up (va_up (va_up (va_up c65_G 44 c79_G44) 45 c79_G45) 160 c110_G160) 161 c110_G161) 162 c110_G162) 163 c110_G163) 165 c94_G165) 166 c110_G166) 167 c110_G167) (va_up c65_P 164 c94_P164) c65_U (va_up c65_V 7 c130_V7) c65_X c65_O → TYP c65_kd (va_up c65_P 164 c94_P164) c65_O (c65_V 0) c65_cnt → va_P (dC, dI) vwCl ws H → va_D A ws → va_S A s.heap H locs → lv_has ls 5 [(0, .ref (ad65_15 this)), (1, .int p0), (2, .int r4), (4, .int y100_4)] → W p l e ({ frames := 49, cells := uc, slots := us, locals := 1273 } : Room) s m args below meth c H locs cc cs Q (F0 m 130 ls []) := by
                    intro c130_V7 ad65_15 ws H locs ls cc cs u1 u2 hr hu1 hu2 hE hW hT hP hD hS hl
                    rw [hj130] at hr
                    refine lv_iinc (v := (y100_4 + 1)) (lv' := [(4, .int (y100_4 + 1)), (0, .ref (ad65_15 this)), (1, .int p0), (2, .int r4)]) hx hb dX11_mixed_130 hl (k := 3) rfl rfl (by decide) rfl (fun ls hl => ?_)
                    refine lv_goto (tgt := 100) hx hb dX11_mixed_133 (by decide) ?_
                    exact ih100 (y100_4 + 1) c110_G160 c110_G161 c110_G162 c110_G163 c110_G166 c110_G167 c130_V7 ad65_15 ws H _ ls cc cs _ _ hr hu1 hu2 hE hW hT hP hD hS (lv_sub hl [1, 2, 3, 0] rfl)
                  refine lv_if_ne (tgt := 130) hx hb dX11_mixed_123 (by decide) (fun c123 => ?_) (fun c123 => ?_)
                  · replace hr := iteF c123 hr
                    have eG : (va_up (va_up (va_up (va_up (va_up (va_up (va_up (va_up (va_up (va_up (va_up (va_up (va_up (va_up (va_up c65_G 44 c79_G44) 45 c79_G45) 160 d100_G160) 161 d100_G161) 162 d100_G162) 163 d100_G163) 165 c94_G165) 166 d100_G166) 167 d100_G167) 160 c110_G160) 161 c110_G161) 162 c110_G162) 163 c110_G163) 166 c110_G166) 167 c110_G167) = (va_up (va_up (va_up (va_up (va_up (va_up (va_up (va_up (va_up c65_G 44 c79_G44) 45 c79_G45) 160 c110_G160) 161 c110_G161) 162 c110_G162) 163 c110_G163) 165 c94_G165) 166 c110_G166) 167 c110_G167) := by
                      funext k
                      by_cases h44 : k = 44
                      · subst h44; rfl
                      by_cases h45 : k = 45
                      · subst h45; rfl
                      by_cases h160 : k = 160
                      · subst h160; rfl
                      by_cases h161 : k = 161
                      · subst h161; rfl
                      by_cases h162 : k = 162
                      · subst h162; rfl
                      by_cases h163 : k = 163
                      · subst h163; rfl
                      by_cases h165 : k = 165
                      · subst h165; rfl
                      by_cases h166 : k = 166
                      · subst h166; rfl
                      by_cases h167 : k = 167
                      · subst h167; rfl
                      · simp only [va_up, h44, h45, h160, h161, h162, h163, h165, h166, h167, if_false]
                    rw [eG] at hW
                    clear eG
                    exact Jj130 d100_V7 ad65_15 w31 H _ ls cc cs _ _ hr hu1 hu2 hE hW hT hP hD hS (lv_sub hl [0, 1, 2, 3] rfl)
                  · replace hr := iteT c123 hr
                    refine lv_aload_n hx hb dX11_mixed_126 rfl (lv_at hl 0 rfl) ?_
                    replace hr := b1S hr
                    obtain ⟨c127_V7, hc127, hr⟩ := hr
                    have hFc := fr_all hD hS hA
                    obtain ⟨i34, hi34⟩ := hW.o11 hk15_this
                    refine va_callv (va_runV (As := []) (rest := []) ⟨hx, hb, hml, hown, hts⟩ (m_X11_chargeWord l dC dI kk ad65_15 H.size w31 (va_up (va_up (va_up (va_up (va_up (va_up (va_up (va_up (va_up (va_up (va_up (va_up (va_up (va_up (va_up c65_G 44 c79_G44) 45 c79_G45) 160 d100_G160) 161 d100_G161) 162 d100_G162) 163 d100_G163) 165 c94_G165) 166 d100_G166) 167 d100_G167) 160 c110_G160) 161 c110_G161) 162 c110_G162) 163 c110_G163) 166 c110_G166) 167 c110_G167) (va_up c65_P 164 c94_P164) c65_U (va_up c65_V 7 d100_V7) c65_X c65_O c65_kd c65_ln c65_cnt this hk15_this hW hT c127_V7 hc127) (cwV 0 hts gc_RX11_X11_chargeWord_285 rfl rfl rfl (by decide +kernel) ⟨Nat.le_of_ble_eq_true rfl, Nat.le_of_ble_eq_true rfl⟩) ⟨fun a U g mk q => by obtain ⟨q0, q1, qP, qK, qD⟩ := q; exact ⟨q0, q1, qP, va_K.moved (u := U) (U := U.calling g mk a) (Vm.Alike.refl U.vm) qK, qD⟩, va_recv hK hP (ci := 11) (q0 := i34) rfl hi34, fun U hU hW => ⟨rfl, by rw [hU], by rw [hU]; exact hP, va_K.moved hW.alike hK, hD.weaken (fun _ _ _ _ => trivial)⟩⟩ rfl rfl hl.1 rfl (lv_room (Nat.le_of_ble_eq_true rfl)) dX11_mixed_127 ⟨(by show _ ≤ uc; omega), (by show _ ≤ us; omega)⟩) hS (fun q _ h => hFc q h) hFc (fun w35 t H1 locs ht hvm hw hB hz1 hk1 hS => ?_)
                    obtain ⟨hW, hT⟩ := hw
                    obtain ⟨hP1, hK1, hD1⟩ := hB
                    rw [ht] at hP1
                    obtain ⟨hP, hD⟩ := jn_all (w1 := w35) hFc hP1 hD1
                    replace hP : va_P (dC, dI) vwCl w35 H1 := hP
                    replace hD : va_D A w35 := hD
                    clear hFc hP1 hK1 hD1 hk1 hz1 ht hvm
                    generalize H1 = H at hP hS ⊢
                    have eG : (va_up (va_up (va_up (va_up (va_up (va_up (va_up (va_up (va_up (va_up (va_up (va_up (va_up (va_up (va_up c65_G 44 c79_G44) 45 c79_G45) 160 d100_G160) 161 d100_G161) 162 d100_G162) 163 d100_G163) 165 c94_G165) 166 d100_G166) 167 d100_G167) 160 c110_G160) 161 c110_G161) 162 c110_G162) 163 c110_G163) 166 c110_G166) 167 c110_G167) = (va_up (va_up (va_up (va_up (va_up (va_up (va_up (va_up (va_up c65_G 44 c79_G44) 45 c79_G45) 160 c110_G160) 161 c110_G161) 162 c110_G162) 163 c110_G163) 165 c94_G165) 166 c110_G166) 167 c110_G167) := by
                      funext k
                      by_cases h44 : k = 44
                      · subst h44; rfl
                      by_cases h45 : k = 45
                      · subst h45; rfl
                      by_cases h160 : k = 160
                      · subst h160; rfl
                      by_cases h161 : k = 161
                      · subst h161; rfl
                      by_cases h162 : k = 162
                      · subst h162; rfl
                      by_cases h163 : k = 163
                      · subst h163; rfl
                      by_cases h165 : k = 165
                      · subst h165; rfl
                      by_cases h166 : k = 166
                      · subst h166; rfl
                      by_cases h167 : k = 167
                      · subst h167; rfl
                      · simp only [va_up, h44, h45, h160, h161, h162, h163, h165, h166, h167, if_false]
                    rw [eG] at hW
                    clear eG
                    have eV : (va_up (va_up c65_V 7 d100_V7) 7 c127_V7) = (va_up c65_V 7 c127_V7) := by
                      funext k
                      by_cases h7 : k = 7
                      · subst h7; rfl
                      · simp only [va_up, h7, if_false]
                    rw [eV] at hW
                    clear eV
                    exact Jj130 c127_V7 ad65_15 w35 H _ ls cc cs _ _ hr hu1 hu2 hE hW hT hP hD hS (lv_sub hl [0, 1, 2, 3] rfl)
          have eG : (va_up (va_up (va_up (va_up (va_up (va_up c65_G 44 c79_G44) 45 c79_G45) 162 c94_G162) 165 c94_G165) 166 c94_G166) 167 c94_G167) = (va_up (va_up (va_up (va_up (va_up (va_up (va_up (va_up (va_up c65_G 44 c79_G44) 45 c79_G45) 160 (c65_G 160)) 161 (c65_G 161)) 162 c94_G162) 163 (c65_G 163)) 165 c94_G165) 166 c94_G166) 167 c94_G167) := by
            funext k
            by_cases h44 : k = 44
            · subst h44; rfl
            by_cases h45 : k = 45
            · subst h45; rfl
            by_cases h160 : k = 160
            · subst h160; rfl
            by_cases h161 : k = 161
            · subst h161; rfl
            by_cases h162 : k = 162
            · subst h162; rfl
            by_cases h163 : k = 163
            · subst h163; rfl
            by_cases h165 : k = 165
            · subst h165; rfl
            by_cases h166 : k = 166
            · subst h166; rfl
            by_cases h167 : k = 167
            · subst h167; rfl
            · simp only [va_up, h44, h45, h160, h161, h162, h163, h165, h166, h167, if_false]
          rw [eG] at hW
          clear eG
          exact lp100 NN 0 (c65_G 160) (c65_G 161) c94_G162 (c65_G 163) c94_G166 c94_G167 c79_V7 ad65_15 w25 H _ ls ccn16 csn16 _ _ hr hu1 hu2 hE hW hT hP hD hS (lv_sub hl [3, 4, 2, 0] rfl)
        · replace hr := iteF c44 hr
          exact Jj47 w9 H _ ls 0 0 _ _ hr hu1 hu2 hE hW hT hP hD hS (lv_sub hl [] rfl)
    · replace hr := iteF c15 hr
      exact Jj18 w3 H _ ls 0 0 _ _ hr hu1 hu2 hE hW hT hP hD hS (lv_sub hl [] rfl)
set_option maxHeartbeats 4000000 in
set_option maxRecDepth 100000 in
theorem m_X11_mixed (l : Launch) (dC : Nat → ClassId) (dI : Nat → Nat → Nat) (kk : Nat → ClassId) (ad : Nat → Nat) (sz : Nat) (ws : va_W) (G : Nat → Nat → Int32) (P : Nat → Nat → Option Nat) (U : Nat → Nat → Int64) (V : Nat → Nat → Nat → Int32) (X : Nat → Nat → Nat → Int64) (O : Nat → Nat → Nat → Option Nat) (kd : Nat → Nat) (ln : Nat → Nat) (cnt : Nat) (this : Nat) (p0 : Int32) (hk_this : kd this = 12) (hW : LW ws ad kk kd ln G P U V X O) (hT : TYP kd P O (V 0) cnt) (r : Int32) (c_G : Nat → Nat → Int32) (c_P : Nat → Nat → Option Nat) (c_U : Nat → Nat → Int64) (c_V : Nat → Nat → Nat → Int32) (c_X : Nat → Nat → Nat → Int64) (c_O : Nat → Nat → Nat → Option Nat) (c_kd : Nat → Nat) (c_ln : Nat → Nat) (c_cnt : Nat) (uc us : Nat) (hr : f_X11_mixed G P U V X O kd ln cnt this p0 = some ((r, c_G, c_P, c_U, c_V, c_X, c_O, c_kd, c_ln, c_cnt), uc, us)) : Met l yX11_mixed vmX11_mixed ({ frames := 49, cells := uc, slots := us, locals := 1273 } : Room) (va_Pc [.ref (ad this), .int p0] (fun U => U.heap.size = sz ∧ va_P (dC, dI) vwCl ws U.heap ∧ va_K (dC, dI) vwCl (cT kk) U ∧ va_D (fun _ => True) ws)) (va_Qi (fun (rz : Int32) (x : (va_W × (Nat → Nat))) => rz = r ∧ LW x.1 x.2 kk c_kd c_ln c_G c_P c_U c_V c_X c_O ∧ TYP c_kd c_P c_O (c_V 0) c_cnt ∧ adEx kd ad c_kd x.2) (fun x t => va_P (dC, dI) vwCl x.1 t.heap ∧ va_K (dC, dI) vwCl (cT kk) t ∧ va_D (va_A ws sz) x.1) (va_A ws sz)) uc us (va_A ws sz) := by
  refine Met.ofW (cc := cX11_mixed) (maxL := 5) (ret := (some .int)) (by decide) rfl ?_
  intro p e s m args below meth c s₁ B hml hv
  obtain ⟨rfl, hsz, hP, hK, hD0⟩ := hv
  have hx := B.exec
  have hb := B.bytes
  have hrt := B.returns
  have hts := atoms_spec (ws := vmX11_mixed) B.pre
  have hown : s.vm.findClass RX11 = some m.cls := findClass_of_methodNamed B.named
  subst hsz
  have hD := hD0.self (sz := s.heap.size)
  generalize hAe : va_A ws s.heap.size = A at hD ⊢
  have hA : ∀ q : Nat, s.heap.size ≤ q → A q := fun q h => by rw [← hAe]; exact Or.inr h
  have hS : va_S A s.heap s.heap [] := va_S.rf
  have hl := lv_entry ([.ref (ad this), .int p0]) (n := 5) (Nat.le_of_ble_eq_true rfl)
  rw [lg_entry_eq]
  generalize (lg_sl ([.ref (ad this), .int p0]) ++ List.replicate (5 - (lg_sl ([.ref (ad this), .int p0])).length) Slot.unset).toArray = ls at hl ⊢
  exact bm_X11_mixed this p0 hk_this r c_G c_P c_U c_V c_X c_O c_kd c_ln c_cnt uc us hr hx hb hml hown hts hA hK hW hT hP hD hS hl (fun pc ls rz c_Gz c_Pz c_Uz c_Vz c_Xz c_Oz c_kdz c_lnz c_cntz adz ws H locs he hd hE hW hT hP hD hS => by cases he; exact W.iret (v := r) hx hb hrt (fun t ht hW9 => ⟨⟨r, (ws, adz), rfl, ⟨rfl, hW, hT, hE⟩, by rw [ht]; exact hP, va_K.moved hW9.alike hK, hD⟩, hS.F ht⟩) hS.2.2 hd)
