theorem gd_X0_init_0 : decode cX0_init 0 = .ok (.aload_n 0, 1) ∧ decode cX0_init 1 = .ok (.invokespecial 3, 3) ∧ decode cX0_init 4 = .ok (.aload_n 0, 1) ∧ decode cX0_init 5 = .ok (.new 9, 3) ∧ decode cX0_init 8 = .ok (.dup, 1) ∧ decode cX0_init 9 = .ok (.bipush 100, 2) ∧ decode cX0_init 11 = .ok (.bipush 24, 2) ∧ decode cX0_init 13 = .ok (.invokespecial 11, 3) ∧ decode cX0_init 16 = .ok (.putfield 14, 3) ∧ decode cX0_init 19 = .ok (.aload_n 0, 1) := by decide +kernel
theorem dX0_init_0 : decode cX0_init 0 = .ok (.aload_n 0, 1) := gd_X0_init_0.1
theorem dX0_init_1 : decode cX0_init 1 = .ok (.invokespecial 3, 3) := gd_X0_init_0.2.1
theorem dX0_init_4 : decode cX0_init 4 = .ok (.aload_n 0, 1) := gd_X0_init_0.2.2.1
theorem dX0_init_5 : decode cX0_init 5 = .ok (.new 9, 3) := gd_X0_init_0.2.2.2.1
theorem dX0_init_8 : decode cX0_init 8 = .ok (.dup, 1) := gd_X0_init_0.2.2.2.2.1
theorem dX0_init_9 : decode cX0_init 9 = .ok (.bipush 100, 2) := gd_X0_init_0.2.2.2.2.2.1
theorem dX0_init_11 : decode cX0_init 11 = .ok (.bipush 24, 2) := gd_X0_init_0.2.2.2.2.2.2.1
theorem dX0_init_13 : decode cX0_init 13 = .ok (.invokespecial 11, 3) := gd_X0_init_0.2.2.2.2.2.2.2.1
theorem dX0_init_16 : decode cX0_init 16 = .ok (.putfield 14, 3) := gd_X0_init_0.2.2.2.2.2.2.2.2.1
theorem dX0_init_19 : decode cX0_init 19 = .ok (.aload_n 0, 1) := gd_X0_init_0.2.2.2.2.2.2.2.2.2
theorem gd_X0_init_20 : decode cX0_init 20 = .ok (.sipush 700, 3) ∧ decode cX0_init 23 = .ok (.anewarray 9, 3) ∧ decode cX0_init 26 = .ok (.putfield 20, 3) ∧ decode cX0_init 29 = .ok (.aload_n 0, 1) ∧ decode cX0_init 30 = .ok (.sipush 600, 3) ∧ decode cX0_init 33 = .ok (.newarray .long, 2) ∧ decode cX0_init 35 = .ok (.putfield 24, 3) ∧ decode cX0_init 38 = .ok (.aload_n 0, 1) ∧ decode cX0_init 39 = .ok (.bipush 7, 2) ∧ decode cX0_init 41 = .ok (.newarray .int, 2) := by decide +kernel
theorem dX0_init_20 : decode cX0_init 20 = .ok (.sipush 700, 3) := gd_X0_init_20.1
theorem dX0_init_23 : decode cX0_init 23 = .ok (.anewarray 9, 3) := gd_X0_init_20.2.1
theorem dX0_init_26 : decode cX0_init 26 = .ok (.putfield 20, 3) := gd_X0_init_20.2.2.1
theorem dX0_init_29 : decode cX0_init 29 = .ok (.aload_n 0, 1) := gd_X0_init_20.2.2.2.1
theorem dX0_init_30 : decode cX0_init 30 = .ok (.sipush 600, 3) := gd_X0_init_20.2.2.2.2.1
theorem dX0_init_33 : decode cX0_init 33 = .ok (.newarray .long, 2) := gd_X0_init_20.2.2.2.2.2.1
theorem dX0_init_35 : decode cX0_init 35 = .ok (.putfield 24, 3) := gd_X0_init_20.2.2.2.2.2.2.1
theorem dX0_init_38 : decode cX0_init 38 = .ok (.aload_n 0, 1) := gd_X0_init_20.2.2.2.2.2.2.2.1
theorem dX0_init_39 : decode cX0_init 39 = .ok (.bipush 7, 2) := gd_X0_init_20.2.2.2.2.2.2.2.2.1
theorem dX0_init_41 : decode cX0_init 41 = .ok (.newarray .int, 2) := gd_X0_init_20.2.2.2.2.2.2.2.2.2
theorem gd_X0_init_43 : decode cX0_init 43 = .ok (.putfield 28, 3) ∧ decode cX0_init 46 = .ok (.aload_n 0, 1) ∧ decode cX0_init 47 = .ok (.new 9, 3) ∧ decode cX0_init 50 = .ok (.dup, 1) ∧ decode cX0_init 51 = .ok (.bipush 12, 2) ∧ decode cX0_init 53 = .ok (.bipush 24, 2) ∧ decode cX0_init 55 = .ok (.invokespecial 11, 3) ∧ decode cX0_init 58 = .ok (.putfield 32, 3) ∧ decode cX0_init 61 = .ok (.aload_n 0, 1) ∧ decode cX0_init 62 = .ok (.new 9, 3) := by decide +kernel
theorem dX0_init_43 : decode cX0_init 43 = .ok (.putfield 28, 3) := gd_X0_init_43.1
theorem dX0_init_46 : decode cX0_init 46 = .ok (.aload_n 0, 1) := gd_X0_init_43.2.1
theorem dX0_init_47 : decode cX0_init 47 = .ok (.new 9, 3) := gd_X0_init_43.2.2.1
theorem dX0_init_50 : decode cX0_init 50 = .ok (.dup, 1) := gd_X0_init_43.2.2.2.1
theorem dX0_init_51 : decode cX0_init 51 = .ok (.bipush 12, 2) := gd_X0_init_43.2.2.2.2.1
theorem dX0_init_53 : decode cX0_init 53 = .ok (.bipush 24, 2) := gd_X0_init_43.2.2.2.2.2.1
theorem dX0_init_55 : decode cX0_init 55 = .ok (.invokespecial 11, 3) := gd_X0_init_43.2.2.2.2.2.2.1
theorem dX0_init_58 : decode cX0_init 58 = .ok (.putfield 32, 3) := gd_X0_init_43.2.2.2.2.2.2.2.1
theorem dX0_init_61 : decode cX0_init 61 = .ok (.aload_n 0, 1) := gd_X0_init_43.2.2.2.2.2.2.2.2.1
theorem dX0_init_62 : decode cX0_init 62 = .ok (.new 9, 3) := gd_X0_init_43.2.2.2.2.2.2.2.2.2
theorem gd_X0_init_65 : decode cX0_init 65 = .ok (.dup, 1) ∧ decode cX0_init 66 = .ok (.iconst 0, 1) ∧ decode cX0_init 67 = .ok (.iconst 0, 1) ∧ decode cX0_init 68 = .ok (.invokespecial 11, 3) ∧ decode cX0_init 71 = .ok (.putfield 35, 3) ∧ decode cX0_init 74 = .ok (.return_, 1) ∧ decode cX0_fill 0 = .ok (.iconst 0, 1) ∧ decode cX0_fill 1 = .ok (.istore 4, 2) ∧ decode cX0_fill 3 = .ok (.iload 4, 2) ∧ decode cX0_fill 5 = .ok (.iload_n 1, 1) := by decide +kernel
theorem dX0_init_65 : decode cX0_init 65 = .ok (.dup, 1) := gd_X0_init_65.1
theorem dX0_init_66 : decode cX0_init 66 = .ok (.iconst 0, 1) := gd_X0_init_65.2.1
theorem dX0_init_67 : decode cX0_init 67 = .ok (.iconst 0, 1) := gd_X0_init_65.2.2.1
theorem dX0_init_68 : decode cX0_init 68 = .ok (.invokespecial 11, 3) := gd_X0_init_65.2.2.2.1
theorem dX0_init_71 : decode cX0_init 71 = .ok (.putfield 35, 3) := gd_X0_init_65.2.2.2.2.1
theorem dX0_init_74 : decode cX0_init 74 = .ok (.return_, 1) := gd_X0_init_65.2.2.2.2.2.1
theorem dX0_fill_0 : decode cX0_fill 0 = .ok (.iconst 0, 1) := gd_X0_init_65.2.2.2.2.2.2.1
theorem dX0_fill_1 : decode cX0_fill 1 = .ok (.istore 4, 2) := gd_X0_init_65.2.2.2.2.2.2.2.1
theorem dX0_fill_3 : decode cX0_fill 3 = .ok (.iload 4, 2) := gd_X0_init_65.2.2.2.2.2.2.2.2.1
theorem dX0_fill_5 : decode cX0_fill 5 = .ok (.iload_n 1, 1) := gd_X0_init_65.2.2.2.2.2.2.2.2.2
theorem gd_X0_fill_6 : decode cX0_fill 6 = .ok (.if_icmp .gt 188, 3) ∧ decode cX0_fill 9 = .ok (.iload 4, 2) ∧ decode cX0_fill 11 = .ok (.bipush 7, 2) ∧ decode cX0_fill 13 = .ok (.if_icmp .ge 181, 3) ∧ decode cX0_fill 16 = .ok (.aload_n 0, 1) ∧ decode cX0_fill 17 = .ok (.getfield 28, 3) ∧ decode cX0_fill 20 = .ok (.iload 4, 2) ∧ decode cX0_fill 22 = .ok (.iaload, 1) ∧ decode cX0_fill 23 = .ok (.istore 5, 2) ∧ decode cX0_fill 25 = .ok (.iload 5, 2) := by decide +kernel
theorem dX0_fill_6 : decode cX0_fill 6 = .ok (.if_icmp .gt 188, 3) := gd_X0_fill_6.1
theorem dX0_fill_9 : decode cX0_fill 9 = .ok (.iload 4, 2) := gd_X0_fill_6.2.1
theorem dX0_fill_11 : decode cX0_fill 11 = .ok (.bipush 7, 2) := gd_X0_fill_6.2.2.1
theorem dX0_fill_13 : decode cX0_fill 13 = .ok (.if_icmp .ge 181, 3) := gd_X0_fill_6.2.2.2.1
theorem dX0_fill_16 : decode cX0_fill 16 = .ok (.aload_n 0, 1) := gd_X0_fill_6.2.2.2.2.1
theorem dX0_fill_17 : decode cX0_fill 17 = .ok (.getfield 28, 3) := gd_X0_fill_6.2.2.2.2.2.1
theorem dX0_fill_20 : decode cX0_fill 20 = .ok (.iload 4, 2) := gd_X0_fill_6.2.2.2.2.2.2.1
theorem dX0_fill_22 : decode cX0_fill 22 = .ok (.iaload, 1) := gd_X0_fill_6.2.2.2.2.2.2.2.1
theorem dX0_fill_23 : decode cX0_fill 23 = .ok (.istore 5, 2) := gd_X0_fill_6.2.2.2.2.2.2.2.2.1
theorem dX0_fill_25 : decode cX0_fill 25 = .ok (.iload 5, 2) := gd_X0_fill_6.2.2.2.2.2.2.2.2.2
theorem gd_X0_fill_27 : decode cX0_fill 27 = .ok (.aload_n 0, 1) ∧ decode cX0_fill 28 = .ok (.getfield 14, 3) ∧ decode cX0_fill 31 = .ok (.getfield 38, 3) ∧ decode cX0_fill 34 = .ok (.if_icmp .ge 140, 3) ∧ decode cX0_fill 174 = .ok (.aload_n 0, 1) ∧ decode cX0_fill 175 = .ok (.getfield 28, 3) ∧ decode cX0_fill 178 = .ok (.iload 4, 2) ∧ decode cX0_fill 180 = .ok (.aload_n 0, 1) ∧ decode cX0_fill 181 = .ok (.getfield 14, 3) ∧ decode cX0_fill 184 = .ok (.getfield 38, 3) := by decide +kernel
theorem dX0_fill_27 : decode cX0_fill 27 = .ok (.aload_n 0, 1) := gd_X0_fill_27.1
theorem dX0_fill_28 : decode cX0_fill 28 = .ok (.getfield 14, 3) := gd_X0_fill_27.2.1
theorem dX0_fill_31 : decode cX0_fill 31 = .ok (.getfield 38, 3) := gd_X0_fill_27.2.2.1
theorem dX0_fill_34 : decode cX0_fill 34 = .ok (.if_icmp .ge 140, 3) := gd_X0_fill_27.2.2.2.1
theorem dX0_fill_174 : decode cX0_fill 174 = .ok (.aload_n 0, 1) := gd_X0_fill_27.2.2.2.2.1
theorem dX0_fill_175 : decode cX0_fill 175 = .ok (.getfield 28, 3) := gd_X0_fill_27.2.2.2.2.2.1
theorem dX0_fill_178 : decode cX0_fill 178 = .ok (.iload 4, 2) := gd_X0_fill_27.2.2.2.2.2.2.1
theorem dX0_fill_180 : decode cX0_fill 180 = .ok (.aload_n 0, 1) := gd_X0_fill_27.2.2.2.2.2.2.2.1
theorem dX0_fill_181 : decode cX0_fill 181 = .ok (.getfield 14, 3) := gd_X0_fill_27.2.2.2.2.2.2.2.2.1
theorem dX0_fill_184 : decode cX0_fill 184 = .ok (.getfield 38, 3) := gd_X0_fill_27.2.2.2.2.2.2.2.2.2
theorem gd_X0_fill_187 : decode cX0_fill 187 = .ok (.iastore, 1) ∧ decode cX0_fill 188 = .ok (.iinc 4 1, 3) ∧ decode cX0_fill 191 = .ok (.goto (-188), 3) ∧ decode cX0_fill 194 = .ok (.return_, 1) ∧ decode cX2_init 0 = .ok (.aload_n 0, 1) ∧ decode cX2_init 1 = .ok (.invokespecial 3, 3) ∧ decode cX2_init 4 = .ok (.aload_n 0, 1) ∧ decode cX2_init 5 = .ok (.sipush 280, 3) ∧ decode cX2_init 8 = .ok (.newarray .int, 2) ∧ decode cX2_init 10 = .ok (.putfield 9, 3) := by decide +kernel
theorem dX0_fill_187 : decode cX0_fill 187 = .ok (.iastore, 1) := gd_X0_fill_187.1
theorem dX0_fill_188 : decode cX0_fill 188 = .ok (.iinc 4 1, 3) := gd_X0_fill_187.2.1
theorem dX0_fill_191 : decode cX0_fill 191 = .ok (.goto (-188), 3) := gd_X0_fill_187.2.2.1
theorem dX0_fill_194 : decode cX0_fill 194 = .ok (.return_, 1) := gd_X0_fill_187.2.2.2.1
theorem dX2_init_0 : decode cX2_init 0 = .ok (.aload_n 0, 1) := gd_X0_fill_187.2.2.2.2.1
theorem dX2_init_1 : decode cX2_init 1 = .ok (.invokespecial 3, 3) := gd_X0_fill_187.2.2.2.2.2.1
theorem dX2_init_4 : decode cX2_init 4 = .ok (.aload_n 0, 1) := gd_X0_fill_187.2.2.2.2.2.2.1
theorem dX2_init_5 : decode cX2_init 5 = .ok (.sipush 280, 3) := gd_X0_fill_187.2.2.2.2.2.2.2.1
theorem dX2_init_8 : decode cX2_init 8 = .ok (.newarray .int, 2) := gd_X0_fill_187.2.2.2.2.2.2.2.2.1
theorem dX2_init_10 : decode cX2_init 10 = .ok (.putfield 9, 3) := gd_X0_fill_187.2.2.2.2.2.2.2.2.2
theorem gd_X2_init_13 : decode cX2_init 13 = .ok (.aload_n 0, 1) ∧ decode cX2_init 14 = .ok (.sipush 280, 3) ∧ decode cX2_init 17 = .ok (.newarray .int, 2) ∧ decode cX2_init 19 = .ok (.putfield 15, 3) ∧ decode cX2_init 22 = .ok (.aload_n 0, 1) ∧ decode cX2_init 23 = .ok (.bipush 40, 2) ∧ decode cX2_init 25 = .ok (.newarray .int, 2) ∧ decode cX2_init 27 = .ok (.putfield 18, 3) ∧ decode cX2_init 30 = .ok (.aload_n 0, 1) ∧ decode cX2_init 31 = .ok (.iconst 0, 1) := by decide +kernel
theorem dX2_init_13 : decode cX2_init 13 = .ok (.aload_n 0, 1) := gd_X2_init_13.1
theorem dX2_init_14 : decode cX2_init 14 = .ok (.sipush 280, 3) := gd_X2_init_13.2.1
theorem dX2_init_17 : decode cX2_init 17 = .ok (.newarray .int, 2) := gd_X2_init_13.2.2.1
theorem dX2_init_19 : decode cX2_init 19 = .ok (.putfield 15, 3) := gd_X2_init_13.2.2.2.1
theorem dX2_init_22 : decode cX2_init 22 = .ok (.aload_n 0, 1) := gd_X2_init_13.2.2.2.2.1
theorem dX2_init_23 : decode cX2_init 23 = .ok (.bipush 40, 2) := gd_X2_init_13.2.2.2.2.2.1
theorem dX2_init_25 : decode cX2_init 25 = .ok (.newarray .int, 2) := gd_X2_init_13.2.2.2.2.2.2.1
theorem dX2_init_27 : decode cX2_init 27 = .ok (.putfield 18, 3) := gd_X2_init_13.2.2.2.2.2.2.2.1
theorem dX2_init_30 : decode cX2_init 30 = .ok (.aload_n 0, 1) := gd_X2_init_13.2.2.2.2.2.2.2.2.1
theorem dX2_init_31 : decode cX2_init 31 = .ok (.iconst 0, 1) := gd_X2_init_13.2.2.2.2.2.2.2.2.2
theorem gd_X2_init_32 : decode cX2_init 32 = .ok (.putfield 21, 3) ∧ decode cX2_init 35 = .ok (.aload_n 0, 1) ∧ decode cX2_init 36 = .ok (.iconst 0, 1) ∧ decode cX2_init 37 = .ok (.putfield 25, 3) ∧ decode cX2_init 40 = .ok (.aload_n 0, 1) ∧ decode cX2_init 41 = .ok (.iconst 0, 1) ∧ decode cX2_init 42 = .ok (.putfield 28, 3) ∧ decode cX2_init 45 = .ok (.return_, 1) ∧ decode cX2_begin 0 = .ok (.aload_n 0, 1) ∧ decode cX2_begin 1 = .ok (.iload_n 1, 1) := by decide +kernel
theorem dX2_init_32 : decode cX2_init 32 = .ok (.putfield 21, 3) := gd_X2_init_32.1
theorem dX2_init_35 : decode cX2_init 35 = .ok (.aload_n 0, 1) := gd_X2_init_32.2.1
theorem dX2_init_36 : decode cX2_init 36 = .ok (.iconst 0, 1) := gd_X2_init_32.2.2.1
theorem dX2_init_37 : decode cX2_init 37 = .ok (.putfield 25, 3) := gd_X2_init_32.2.2.2.1
theorem dX2_init_40 : decode cX2_init 40 = .ok (.aload_n 0, 1) := gd_X2_init_32.2.2.2.2.1
theorem dX2_init_41 : decode cX2_init 41 = .ok (.iconst 0, 1) := gd_X2_init_32.2.2.2.2.2.1
theorem dX2_init_42 : decode cX2_init 42 = .ok (.putfield 28, 3) := gd_X2_init_32.2.2.2.2.2.2.1
theorem dX2_init_45 : decode cX2_init 45 = .ok (.return_, 1) := gd_X2_init_32.2.2.2.2.2.2.2.1
theorem dX2_begin_0 : decode cX2_begin 0 = .ok (.aload_n 0, 1) := gd_X2_init_32.2.2.2.2.2.2.2.2.1
theorem dX2_begin_1 : decode cX2_begin 1 = .ok (.iload_n 1, 1) := gd_X2_init_32.2.2.2.2.2.2.2.2.2
theorem gd_X2_begin_2 : decode cX2_begin 2 = .ok (.bipush 40, 2) ∧ decode cX2_begin 4 = .ok (.invokestatic 31, 3) ∧ decode cX2_begin 7 = .ok (.putfield 25, 3) ∧ decode cX2_begin 10 = .ok (.aload_n 0, 1) ∧ decode cX2_begin 11 = .ok (.iload_n 2, 1) ∧ decode cX2_begin 12 = .ok (.bipush 7, 2) ∧ decode cX2_begin 14 = .ok (.invokestatic 31, 3) ∧ decode cX2_begin 17 = .ok (.putfield 28, 3) ∧ decode cX2_begin 20 = .ok (.aload_n 0, 1) ∧ decode cX2_begin 21 = .ok (.getfield 9, 3) := by decide +kernel
theorem dX2_begin_2 : decode cX2_begin 2 = .ok (.bipush 40, 2) := gd_X2_begin_2.1
theorem dX2_begin_4 : decode cX2_begin 4 = .ok (.invokestatic 31, 3) := gd_X2_begin_2.2.1
theorem dX2_begin_7 : decode cX2_begin 7 = .ok (.putfield 25, 3) := gd_X2_begin_2.2.2.1
theorem dX2_begin_10 : decode cX2_begin 10 = .ok (.aload_n 0, 1) := gd_X2_begin_2.2.2.2.1
theorem dX2_begin_11 : decode cX2_begin 11 = .ok (.iload_n 2, 1) := gd_X2_begin_2.2.2.2.2.1
theorem dX2_begin_12 : decode cX2_begin 12 = .ok (.bipush 7, 2) := gd_X2_begin_2.2.2.2.2.2.1
theorem dX2_begin_14 : decode cX2_begin 14 = .ok (.invokestatic 31, 3) := gd_X2_begin_2.2.2.2.2.2.2.1
theorem dX2_begin_17 : decode cX2_begin 17 = .ok (.putfield 28, 3) := gd_X2_begin_2.2.2.2.2.2.2.2.1
theorem dX2_begin_20 : decode cX2_begin 20 = .ok (.aload_n 0, 1) := gd_X2_begin_2.2.2.2.2.2.2.2.2.1
theorem dX2_begin_21 : decode cX2_begin 21 = .ok (.getfield 9, 3) := gd_X2_begin_2.2.2.2.2.2.2.2.2.2
theorem gd_X2_begin_24 : decode cX2_begin 24 = .ok (.iconst 0, 1) ∧ decode cX2_begin 25 = .ok (.invokestatic 37, 3) ∧ decode cX2_begin 28 = .ok (.return_, 1) ∧ decode cX2_settle 0 = .ok (.aload_n 0, 1) ∧ decode cX2_settle 1 = .ok (.getfield 25, 3) ∧ decode cX2_settle 4 = .ok (.iconst 1, 1) ∧ decode cX2_settle 5 = .ok (.isub, 1) ∧ decode cX2_settle 6 = .ok (.istore_n 2, 1) ∧ decode cX2_settle 7 = .ok (.iload_n 2, 1) ∧ decode cX2_settle 8 = .ok (.ifCond .lt 84, 3) := by decide +kernel
theorem dX2_begin_24 : decode cX2_begin 24 = .ok (.iconst 0, 1) := gd_X2_begin_24.1
theorem dX2_begin_25 : decode cX2_begin 25 = .ok (.invokestatic 37, 3) := gd_X2_begin_24.2.1
theorem dX2_begin_28 : decode cX2_begin 28 = .ok (.return_, 1) := gd_X2_begin_24.2.2.1
theorem dX2_settle_0 : decode cX2_settle 0 = .ok (.aload_n 0, 1) := gd_X2_begin_24.2.2.2.1
theorem dX2_settle_1 : decode cX2_settle 1 = .ok (.getfield 25, 3) := gd_X2_begin_24.2.2.2.2.1
theorem dX2_settle_4 : decode cX2_settle 4 = .ok (.iconst 1, 1) := gd_X2_begin_24.2.2.2.2.2.1
theorem dX2_settle_5 : decode cX2_settle 5 = .ok (.isub, 1) := gd_X2_begin_24.2.2.2.2.2.2.1
theorem dX2_settle_6 : decode cX2_settle 6 = .ok (.istore_n 2, 1) := gd_X2_begin_24.2.2.2.2.2.2.2.1
theorem dX2_settle_7 : decode cX2_settle 7 = .ok (.iload_n 2, 1) := gd_X2_begin_24.2.2.2.2.2.2.2.2.1
theorem dX2_settle_8 : decode cX2_settle 8 = .ok (.ifCond .lt 84, 3) := gd_X2_begin_24.2.2.2.2.2.2.2.2.2
theorem gd_X2_settle_11 : decode cX2_settle 11 = .ok (.iconst 0, 1) ∧ decode cX2_settle 12 = .ok (.istore_n 3, 1) ∧ decode cX2_settle 13 = .ok (.iload_n 3, 1) ∧ decode cX2_settle 14 = .ok (.aload_n 0, 1) ∧ decode cX2_settle 15 = .ok (.getfield 28, 3) ∧ decode cX2_settle 18 = .ok (.if_icmp .ge 68, 3) ∧ decode cX2_settle 21 = .ok (.iload_n 2, 1) ∧ decode cX2_settle 22 = .ok (.iconst 1, 1) ∧ decode cX2_settle 23 = .ok (.iadd, 1) ∧ decode cX2_settle 24 = .ok (.aload_n 0, 1) := by decide +kernel
theorem dX2_settle_11 : decode cX2_settle 11 = .ok (.iconst 0, 1) := gd_X2_settle_11.1
theorem dX2_settle_12 : decode cX2_settle 12 = .ok (.istore_n 3, 1) := gd_X2_settle_11.2.1
theorem dX2_settle_13 : decode cX2_settle 13 = .ok (.iload_n 3, 1) := gd_X2_settle_11.2.2.1
theorem dX2_settle_14 : decode cX2_settle 14 = .ok (.aload_n 0, 1) := gd_X2_settle_11.2.2.2.1
theorem dX2_settle_15 : decode cX2_settle 15 = .ok (.getfield 28, 3) := gd_X2_settle_11.2.2.2.2.1
theorem dX2_settle_18 : decode cX2_settle 18 = .ok (.if_icmp .ge 68, 3) := gd_X2_settle_11.2.2.2.2.2.1
theorem dX2_settle_21 : decode cX2_settle 21 = .ok (.iload_n 2, 1) := gd_X2_settle_11.2.2.2.2.2.2.1
theorem dX2_settle_22 : decode cX2_settle 22 = .ok (.iconst 1, 1) := gd_X2_settle_11.2.2.2.2.2.2.2.1
theorem dX2_settle_23 : decode cX2_settle 23 = .ok (.iadd, 1) := gd_X2_settle_11.2.2.2.2.2.2.2.2.1
theorem dX2_settle_24 : decode cX2_settle 24 = .ok (.aload_n 0, 1) := gd_X2_settle_11.2.2.2.2.2.2.2.2.2
theorem gd_X2_settle_25 : decode cX2_settle 25 = .ok (.getfield 25, 3) ∧ decode cX2_settle 28 = .ok (.if_icmp .ge 24, 3) ∧ decode cX2_settle 52 = .ok (.iconst 0, 1) ∧ decode cX2_settle 53 = .ok (.istore 4, 2) ∧ decode cX2_settle 55 = .ok (.aload_n 0, 1) ∧ decode cX2_settle 56 = .ok (.getfield 15, 3) ∧ decode cX2_settle 59 = .ok (.iload_n 2, 1) ∧ decode cX2_settle 60 = .ok (.bipush 7, 2) ∧ decode cX2_settle 62 = .ok (.imul, 1) ∧ decode cX2_settle 63 = .ok (.iload_n 3, 1) := by decide +kernel
theorem dX2_settle_25 : decode cX2_settle 25 = .ok (.getfield 25, 3) := gd_X2_settle_25.1
theorem dX2_settle_28 : decode cX2_settle 28 = .ok (.if_icmp .ge 24, 3) := gd_X2_settle_25.2.1
theorem dX2_settle_52 : decode cX2_settle 52 = .ok (.iconst 0, 1) := gd_X2_settle_25.2.2.1
theorem dX2_settle_53 : decode cX2_settle 53 = .ok (.istore 4, 2) := gd_X2_settle_25.2.2.2.1
theorem dX2_settle_55 : decode cX2_settle 55 = .ok (.aload_n 0, 1) := gd_X2_settle_25.2.2.2.2.1
theorem dX2_settle_56 : decode cX2_settle 56 = .ok (.getfield 15, 3) := gd_X2_settle_25.2.2.2.2.2.1
theorem dX2_settle_59 : decode cX2_settle 59 = .ok (.iload_n 2, 1) := gd_X2_settle_25.2.2.2.2.2.2.1
theorem dX2_settle_60 : decode cX2_settle 60 = .ok (.bipush 7, 2) := gd_X2_settle_25.2.2.2.2.2.2.2.1
theorem dX2_settle_62 : decode cX2_settle 62 = .ok (.imul, 1) := gd_X2_settle_25.2.2.2.2.2.2.2.2.1
theorem dX2_settle_63 : decode cX2_settle 63 = .ok (.iload_n 3, 1) := gd_X2_settle_25.2.2.2.2.2.2.2.2.2
theorem gd_X2_settle_64 : decode cX2_settle 64 = .ok (.iadd, 1) ∧ decode cX2_settle 65 = .ok (.aload_n 0, 1) ∧ decode cX2_settle 66 = .ok (.getfield 9, 3) ∧ decode cX2_settle 69 = .ok (.iload_n 2, 1) ∧ decode cX2_settle 70 = .ok (.bipush 7, 2) ∧ decode cX2_settle 72 = .ok (.imul, 1) ∧ decode cX2_settle 73 = .ok (.iload_n 3, 1) ∧ decode cX2_settle 74 = .ok (.iadd, 1) ∧ decode cX2_settle 75 = .ok (.iaload, 1) ∧ decode cX2_settle 76 = .ok (.iload 4, 2) := by decide +kernel
theorem dX2_settle_64 : decode cX2_settle 64 = .ok (.iadd, 1) := gd_X2_settle_64.1
theorem dX2_settle_65 : decode cX2_settle 65 = .ok (.aload_n 0, 1) := gd_X2_settle_64.2.1
theorem dX2_settle_66 : decode cX2_settle 66 = .ok (.getfield 9, 3) := gd_X2_settle_64.2.2.1
theorem dX2_settle_69 : decode cX2_settle 69 = .ok (.iload_n 2, 1) := gd_X2_settle_64.2.2.2.1
theorem dX2_settle_70 : decode cX2_settle 70 = .ok (.bipush 7, 2) := gd_X2_settle_64.2.2.2.2.1
theorem dX2_settle_72 : decode cX2_settle 72 = .ok (.imul, 1) := gd_X2_settle_64.2.2.2.2.2.1
theorem dX2_settle_73 : decode cX2_settle 73 = .ok (.iload_n 3, 1) := gd_X2_settle_64.2.2.2.2.2.2.1
theorem dX2_settle_74 : decode cX2_settle 74 = .ok (.iadd, 1) := gd_X2_settle_64.2.2.2.2.2.2.2.1
theorem dX2_settle_75 : decode cX2_settle 75 = .ok (.iaload, 1) := gd_X2_settle_64.2.2.2.2.2.2.2.2.1
theorem dX2_settle_76 : decode cX2_settle 76 = .ok (.iload 4, 2) := gd_X2_settle_64.2.2.2.2.2.2.2.2.2
theorem gd_X2_settle_78 : decode cX2_settle 78 = .ok (.iadd, 1) ∧ decode cX2_settle 79 = .ok (.iastore, 1) ∧ decode cX2_settle 80 = .ok (.iinc 3 1, 3) ∧ decode cX2_settle 83 = .ok (.goto (-70), 3) ∧ decode cX2_settle 86 = .ok (.iinc 2 (-1), 3) ∧ decode cX2_settle 89 = .ok (.goto (-82), 3) ∧ decode cX2_settle 92 = .ok (.iconst (-1), 1) ∧ decode cX2_settle 93 = .ok (.istore_n 2, 1) ∧ decode cX2_settle 94 = .ok (.iconst 0, 1) ∧ decode cX2_settle 95 = .ok (.istore_n 3, 1) := by decide +kernel
theorem dX2_settle_78 : decode cX2_settle 78 = .ok (.iadd, 1) := gd_X2_settle_78.1
theorem dX2_settle_79 : decode cX2_settle 79 = .ok (.iastore, 1) := gd_X2_settle_78.2.1
theorem dX2_settle_80 : decode cX2_settle 80 = .ok (.iinc 3 1, 3) := gd_X2_settle_78.2.2.1
theorem dX2_settle_83 : decode cX2_settle 83 = .ok (.goto (-70), 3) := gd_X2_settle_78.2.2.2.1
theorem dX2_settle_86 : decode cX2_settle 86 = .ok (.iinc 2 (-1), 3) := gd_X2_settle_78.2.2.2.2.1
theorem dX2_settle_89 : decode cX2_settle 89 = .ok (.goto (-82), 3) := gd_X2_settle_78.2.2.2.2.2.1
theorem dX2_settle_92 : decode cX2_settle 92 = .ok (.iconst (-1), 1) := gd_X2_settle_78.2.2.2.2.2.2.1
theorem dX2_settle_93 : decode cX2_settle 93 = .ok (.istore_n 2, 1) := gd_X2_settle_78.2.2.2.2.2.2.2.1
theorem dX2_settle_94 : decode cX2_settle 94 = .ok (.iconst 0, 1) := gd_X2_settle_78.2.2.2.2.2.2.2.2.1
theorem dX2_settle_95 : decode cX2_settle 95 = .ok (.istore_n 3, 1) := gd_X2_settle_78.2.2.2.2.2.2.2.2.2
theorem gd_X2_settle_96 : decode cX2_settle 96 = .ok (.iload_n 3, 1) ∧ decode cX2_settle 97 = .ok (.aload_n 0, 1) ∧ decode cX2_settle 98 = .ok (.getfield 25, 3) ∧ decode cX2_settle 101 = .ok (.if_icmp .ge 24, 3) ∧ decode cX2_settle 104 = .ok (.aload_n 0, 1) ∧ decode cX2_settle 105 = .ok (.iload_n 3, 1) ∧ decode cX2_settle 106 = .ok (.iload_n 2, 1) ∧ decode cX2_settle 107 = .ok (.iload_n 1, 1) ∧ decode cX2_settle 108 = .ok (.invokevirtual 43, 3) ∧ decode cX2_settle 111 = .ok (.istore_n 2, 1) := by decide +kernel
theorem dX2_settle_96 : decode cX2_settle 96 = .ok (.iload_n 3, 1) := gd_X2_settle_96.1
theorem dX2_settle_97 : decode cX2_settle 97 = .ok (.aload_n 0, 1) := gd_X2_settle_96.2.1
theorem dX2_settle_98 : decode cX2_settle 98 = .ok (.getfield 25, 3) := gd_X2_settle_96.2.2.1
theorem dX2_settle_101 : decode cX2_settle 101 = .ok (.if_icmp .ge 24, 3) := gd_X2_settle_96.2.2.2.1
theorem dX2_settle_104 : decode cX2_settle 104 = .ok (.aload_n 0, 1) := gd_X2_settle_96.2.2.2.2.1
theorem dX2_settle_105 : decode cX2_settle 105 = .ok (.iload_n 3, 1) := gd_X2_settle_96.2.2.2.2.2.1
theorem dX2_settle_106 : decode cX2_settle 106 = .ok (.iload_n 2, 1) := gd_X2_settle_96.2.2.2.2.2.2.1
theorem dX2_settle_107 : decode cX2_settle 107 = .ok (.iload_n 1, 1) := gd_X2_settle_96.2.2.2.2.2.2.2.1
theorem dX2_settle_108 : decode cX2_settle 108 = .ok (.invokevirtual 43, 3) := gd_X2_settle_96.2.2.2.2.2.2.2.2.1
theorem dX2_settle_111 : decode cX2_settle 111 = .ok (.istore_n 2, 1) := gd_X2_settle_96.2.2.2.2.2.2.2.2.2
theorem gd_X2_settle_112 : decode cX2_settle 112 = .ok (.aload_n 0, 1) ∧ decode cX2_settle 113 = .ok (.getfield 18, 3) ∧ decode cX2_settle 116 = .ok (.iload_n 3, 1) ∧ decode cX2_settle 117 = .ok (.iload_n 2, 1) ∧ decode cX2_settle 118 = .ok (.iastore, 1) ∧ decode cX2_settle 119 = .ok (.iinc 3 1, 3) ∧ decode cX2_settle 122 = .ok (.goto (-26), 3) ∧ decode cX2_settle 125 = .ok (.aload_n 0, 1) ∧ decode cX2_settle 126 = .ok (.aload_n 0, 1) ∧ decode cX2_settle 127 = .ok (.getfield 25, 3) := by decide +kernel
theorem dX2_settle_112 : decode cX2_settle 112 = .ok (.aload_n 0, 1) := gd_X2_settle_112.1
theorem dX2_settle_113 : decode cX2_settle 113 = .ok (.getfield 18, 3) := gd_X2_settle_112.2.1
theorem dX2_settle_116 : decode cX2_settle 116 = .ok (.iload_n 3, 1) := gd_X2_settle_112.2.2.1
theorem dX2_settle_117 : decode cX2_settle 117 = .ok (.iload_n 2, 1) := gd_X2_settle_112.2.2.2.1
theorem dX2_settle_118 : decode cX2_settle 118 = .ok (.iastore, 1) := gd_X2_settle_112.2.2.2.2.1
theorem dX2_settle_119 : decode cX2_settle 119 = .ok (.iinc 3 1, 3) := gd_X2_settle_112.2.2.2.2.2.1
theorem dX2_settle_122 : decode cX2_settle 122 = .ok (.goto (-26), 3) := gd_X2_settle_112.2.2.2.2.2.2.1
theorem dX2_settle_125 : decode cX2_settle 125 = .ok (.aload_n 0, 1) := gd_X2_settle_112.2.2.2.2.2.2.2.1
theorem dX2_settle_126 : decode cX2_settle 126 = .ok (.aload_n 0, 1) := gd_X2_settle_112.2.2.2.2.2.2.2.2.1
theorem dX2_settle_127 : decode cX2_settle 127 = .ok (.getfield 25, 3) := gd_X2_settle_112.2.2.2.2.2.2.2.2.2
theorem gd_X2_settle_130 : decode cX2_settle 130 = .ok (.putfield 21, 3) ∧ decode cX2_settle 133 = .ok (.aload_n 0, 1) ∧ decode cX2_settle 134 = .ok (.iconst 0, 1) ∧ decode cX2_settle 135 = .ok (.aload_n 0, 1) ∧ decode cX2_settle 136 = .ok (.getfield 18, 3) ∧ decode cX2_settle 139 = .ok (.iconst 0, 1) ∧ decode cX2_settle 140 = .ok (.iaload, 1) ∧ decode cX2_settle 141 = .ok (.iconst (-1), 1) ∧ decode cX2_settle 142 = .ok (.iload_n 1, 1) ∧ decode cX2_settle 143 = .ok (.invokevirtual 47, 3) := by decide +kernel
theorem dX2_settle_130 : decode cX2_settle 130 = .ok (.putfield 21, 3) := gd_X2_settle_130.1
theorem dX2_settle_133 : decode cX2_settle 133 = .ok (.aload_n 0, 1) := gd_X2_settle_130.2.1
theorem dX2_settle_134 : decode cX2_settle 134 = .ok (.iconst 0, 1) := gd_X2_settle_130.2.2.1
theorem dX2_settle_135 : decode cX2_settle 135 = .ok (.aload_n 0, 1) := gd_X2_settle_130.2.2.2.1
theorem dX2_settle_136 : decode cX2_settle 136 = .ok (.getfield 18, 3) := gd_X2_settle_130.2.2.2.2.1
theorem dX2_settle_139 : decode cX2_settle 139 = .ok (.iconst 0, 1) := gd_X2_settle_130.2.2.2.2.2.1
theorem dX2_settle_140 : decode cX2_settle 140 = .ok (.iaload, 1) := gd_X2_settle_130.2.2.2.2.2.2.1
theorem dX2_settle_141 : decode cX2_settle 141 = .ok (.iconst (-1), 1) := gd_X2_settle_130.2.2.2.2.2.2.2.1
theorem dX2_settle_142 : decode cX2_settle 142 = .ok (.iload_n 1, 1) := gd_X2_settle_130.2.2.2.2.2.2.2.2.1
theorem dX2_settle_143 : decode cX2_settle 143 = .ok (.invokevirtual 47, 3) := gd_X2_settle_130.2.2.2.2.2.2.2.2.2
theorem gd_X2_settle_146 : decode cX2_settle 146 = .ok (.ireturn, 1) ∧ decode cX2_stageOf 0 = .ok (.iload_n 1, 1) ∧ decode cX2_stageOf 1 = .ok (.ifCond .lt 11, 3) ∧ decode cX2_stageOf 4 = .ok (.iload_n 1, 1) ∧ decode cX2_stageOf 5 = .ok (.aload_n 0, 1) ∧ decode cX2_stageOf 6 = .ok (.getfield 21, 3) ∧ decode cX2_stageOf 9 = .ok (.if_icmp .lt 7, 3) ∧ decode cX2_stageOf 12 = .ok (.iconst (-1), 1) ∧ decode cX2_stageOf 13 = .ok (.goto 9, 3) ∧ decode cX2_stageOf 22 = .ok (.ireturn, 1) := by decide +kernel
theorem dX2_settle_146 : decode cX2_settle 146 = .ok (.ireturn, 1) := gd_X2_settle_146.1
theorem dX2_stageOf_0 : decode cX2_stageOf 0 = .ok (.iload_n 1, 1) := gd_X2_settle_146.2.1
theorem dX2_stageOf_1 : decode cX2_stageOf 1 = .ok (.ifCond .lt 11, 3) := gd_X2_settle_146.2.2.1
theorem dX2_stageOf_4 : decode cX2_stageOf 4 = .ok (.iload_n 1, 1) := gd_X2_settle_146.2.2.2.1
theorem dX2_stageOf_5 : decode cX2_stageOf 5 = .ok (.aload_n 0, 1) := gd_X2_settle_146.2.2.2.2.1
theorem dX2_stageOf_6 : decode cX2_stageOf 6 = .ok (.getfield 21, 3) := gd_X2_settle_146.2.2.2.2.2.1
theorem dX2_stageOf_9 : decode cX2_stageOf 9 = .ok (.if_icmp .lt 7, 3) := gd_X2_settle_146.2.2.2.2.2.2.1
theorem dX2_stageOf_12 : decode cX2_stageOf 12 = .ok (.iconst (-1), 1) := gd_X2_settle_146.2.2.2.2.2.2.2.1
theorem dX2_stageOf_13 : decode cX2_stageOf 13 = .ok (.goto 9, 3) := gd_X2_settle_146.2.2.2.2.2.2.2.2.1
theorem dX2_stageOf_22 : decode cX2_stageOf 22 = .ok (.ireturn, 1) := gd_X2_settle_146.2.2.2.2.2.2.2.2.2
theorem gd_X2_cheapest_0 : decode cX2_cheapest 0 = .ok (.iconst 0, 1) ∧ decode cX2_cheapest 1 = .ok (.istore 4, 2) ∧ decode cX2_cheapest 3 = .ok (.iconst 1, 1) ∧ decode cX2_cheapest 4 = .ok (.istore 5, 2) ∧ decode cX2_cheapest 6 = .ok (.iload 5, 2) ∧ decode cX2_cheapest 8 = .ok (.aload_n 0, 1) ∧ decode cX2_cheapest 9 = .ok (.getfield 28, 3) ∧ decode cX2_cheapest 12 = .ok (.if_icmp .ge 34, 3) ∧ decode cX2_cheapest 46 = .ok (.iload 4, 2) ∧ decode cX2_cheapest 48 = .ok (.ireturn, 1) := by decide +kernel
theorem dX2_cheapest_0 : decode cX2_cheapest 0 = .ok (.iconst 0, 1) := gd_X2_cheapest_0.1
theorem dX2_cheapest_1 : decode cX2_cheapest 1 = .ok (.istore 4, 2) := gd_X2_cheapest_0.2.1
theorem dX2_cheapest_3 : decode cX2_cheapest 3 = .ok (.iconst 1, 1) := gd_X2_cheapest_0.2.2.1
theorem dX2_cheapest_4 : decode cX2_cheapest 4 = .ok (.istore 5, 2) := gd_X2_cheapest_0.2.2.2.1
theorem dX2_cheapest_6 : decode cX2_cheapest 6 = .ok (.iload 5, 2) := gd_X2_cheapest_0.2.2.2.2.1
theorem dX2_cheapest_8 : decode cX2_cheapest 8 = .ok (.aload_n 0, 1) := gd_X2_cheapest_0.2.2.2.2.2.1
theorem dX2_cheapest_9 : decode cX2_cheapest 9 = .ok (.getfield 28, 3) := gd_X2_cheapest_0.2.2.2.2.2.2.1
theorem dX2_cheapest_12 : decode cX2_cheapest 12 = .ok (.if_icmp .ge 34, 3) := gd_X2_cheapest_0.2.2.2.2.2.2.2.1
theorem dX2_cheapest_46 : decode cX2_cheapest 46 = .ok (.iload 4, 2) := gd_X2_cheapest_0.2.2.2.2.2.2.2.2.1
theorem dX2_cheapest_48 : decode cX2_cheapest 48 = .ok (.ireturn, 1) := gd_X2_cheapest_0.2.2.2.2.2.2.2.2.2
theorem gd_X2_cost_0 : decode cX2_cost 0 = .ok (.iload_n 3, 1) ∧ decode cX2_cost 1 = .ok (.iconst (-1), 1) ∧ decode cX2_cost 2 = .ok (.if_icmp .eq 12, 3) ∧ decode cX2_cost 14 = .ok (.iconst 0, 1) ∧ decode cX2_cost 15 = .ok (.istore 5, 2) ∧ decode cX2_cost 17 = .ok (.aload_n 0, 1) ∧ decode cX2_cost 18 = .ok (.getfield 15, 3) ∧ decode cX2_cost 21 = .ok (.iload_n 1, 1) ∧ decode cX2_cost 22 = .ok (.bipush 7, 2) ∧ decode cX2_cost 24 = .ok (.imul, 1) := by decide +kernel
theorem dX2_cost_0 : decode cX2_cost 0 = .ok (.iload_n 3, 1) := gd_X2_cost_0.1
theorem dX2_cost_1 : decode cX2_cost 1 = .ok (.iconst (-1), 1) := gd_X2_cost_0.2.1
theorem dX2_cost_2 : decode cX2_cost 2 = .ok (.if_icmp .eq 12, 3) := gd_X2_cost_0.2.2.1
theorem dX2_cost_14 : decode cX2_cost 14 = .ok (.iconst 0, 1) := gd_X2_cost_0.2.2.2.1
theorem dX2_cost_15 : decode cX2_cost 15 = .ok (.istore 5, 2) := gd_X2_cost_0.2.2.2.2.1
theorem dX2_cost_17 : decode cX2_cost 17 = .ok (.aload_n 0, 1) := gd_X2_cost_0.2.2.2.2.2.1
theorem dX2_cost_18 : decode cX2_cost 18 = .ok (.getfield 15, 3) := gd_X2_cost_0.2.2.2.2.2.2.1
theorem dX2_cost_21 : decode cX2_cost 21 = .ok (.iload_n 1, 1) := gd_X2_cost_0.2.2.2.2.2.2.2.1
theorem dX2_cost_22 : decode cX2_cost 22 = .ok (.bipush 7, 2) := gd_X2_cost_0.2.2.2.2.2.2.2.2.1
theorem dX2_cost_24 : decode cX2_cost 24 = .ok (.imul, 1) := gd_X2_cost_0.2.2.2.2.2.2.2.2.2
theorem gd_X2_cost_25 : decode cX2_cost 25 = .ok (.iload_n 2, 1) ∧ decode cX2_cost 26 = .ok (.iadd, 1) ∧ decode cX2_cost 27 = .ok (.iaload, 1) ∧ decode cX2_cost 28 = .ok (.iload 5, 2) ∧ decode cX2_cost 30 = .ok (.ifCond .eq 8, 3) ∧ decode cX2_cost 38 = .ok (.iconst 0, 1) ∧ decode cX2_cost 39 = .ok (.iadd, 1) ∧ decode cX2_cost 40 = .ok (.ireturn, 1) ∧ decode cX3_init 0 = .ok (.aload_n 0, 1) ∧ decode cX3_init 1 = .ok (.invokespecial 3, 3) := by decide +kernel
theorem dX2_cost_25 : decode cX2_cost 25 = .ok (.iload_n 2, 1) := gd_X2_cost_25.1
theorem dX2_cost_26 : decode cX2_cost 26 = .ok (.iadd, 1) := gd_X2_cost_25.2.1
theorem dX2_cost_27 : decode cX2_cost 27 = .ok (.iaload, 1) := gd_X2_cost_25.2.2.1
theorem dX2_cost_28 : decode cX2_cost 28 = .ok (.iload 5, 2) := gd_X2_cost_25.2.2.2.1
theorem dX2_cost_30 : decode cX2_cost 30 = .ok (.ifCond .eq 8, 3) := gd_X2_cost_25.2.2.2.2.1
theorem dX2_cost_38 : decode cX2_cost 38 = .ok (.iconst 0, 1) := gd_X2_cost_25.2.2.2.2.2.1
theorem dX2_cost_39 : decode cX2_cost 39 = .ok (.iadd, 1) := gd_X2_cost_25.2.2.2.2.2.2.1
theorem dX2_cost_40 : decode cX2_cost 40 = .ok (.ireturn, 1) := gd_X2_cost_25.2.2.2.2.2.2.2.1
theorem dX3_init_0 : decode cX3_init 0 = .ok (.aload_n 0, 1) := gd_X2_cost_25.2.2.2.2.2.2.2.2.1
theorem dX3_init_1 : decode cX3_init 1 = .ok (.invokespecial 3, 3) := gd_X2_cost_25.2.2.2.2.2.2.2.2.2
theorem gd_X3_init_4 : decode cX3_init 4 = .ok (.aload_n 0, 1) ∧ decode cX3_init 5 = .ok (.iconst 0, 1) ∧ decode cX3_init 6 = .ok (.putfield 9, 3) ∧ decode cX3_init 9 = .ok (.aload_n 0, 1) ∧ decode cX3_init 10 = .ok (.bipush 30, 2) ∧ decode cX3_init 12 = .ok (.newarray .int, 2) ∧ decode cX3_init 14 = .ok (.putfield 15, 3) ∧ decode cX3_init 17 = .ok (.aload_n 0, 1) ∧ decode cX3_init 18 = .ok (.sipush 720, 3) ∧ decode cX3_init 21 = .ok (.newarray .byte, 2) := by decide +kernel
theorem dX3_init_4 : decode cX3_init 4 = .ok (.aload_n 0, 1) := gd_X3_init_4.1
theorem dX3_init_5 : decode cX3_init 5 = .ok (.iconst 0, 1) := gd_X3_init_4.2.1
theorem dX3_init_6 : decode cX3_init 6 = .ok (.putfield 9, 3) := gd_X3_init_4.2.2.1
theorem dX3_init_9 : decode cX3_init 9 = .ok (.aload_n 0, 1) := gd_X3_init_4.2.2.2.1
theorem dX3_init_10 : decode cX3_init 10 = .ok (.bipush 30, 2) := gd_X3_init_4.2.2.2.2.1
theorem dX3_init_12 : decode cX3_init 12 = .ok (.newarray .int, 2) := gd_X3_init_4.2.2.2.2.2.1
theorem dX3_init_14 : decode cX3_init 14 = .ok (.putfield 15, 3) := gd_X3_init_4.2.2.2.2.2.2.1
theorem dX3_init_17 : decode cX3_init 17 = .ok (.aload_n 0, 1) := gd_X3_init_4.2.2.2.2.2.2.2.1
theorem dX3_init_18 : decode cX3_init 18 = .ok (.sipush 720, 3) := gd_X3_init_4.2.2.2.2.2.2.2.2.1
theorem dX3_init_21 : decode cX3_init 21 = .ok (.newarray .byte, 2) := gd_X3_init_4.2.2.2.2.2.2.2.2.2
theorem gd_X3_init_23 : decode cX3_init 23 = .ok (.putfield 19, 3) ∧ decode cX3_init 26 = .ok (.aload_n 0, 1) ∧ decode cX3_init 27 = .ok (.sipush 408, 3) ∧ decode cX3_init 30 = .ok (.newarray .byte, 2) ∧ decode cX3_init 32 = .ok (.putfield 23, 3) ∧ decode cX3_init 35 = .ok (.aload_n 0, 1) ∧ decode cX3_init 36 = .ok (.bipush 25, 2) ∧ decode cX3_init 38 = .ok (.newarray .boolean, 2) ∧ decode cX3_init 40 = .ok (.putfield 26, 3) ∧ decode cX3_init 43 = .ok (.aload_n 0, 1) := by decide +kernel
theorem dX3_init_23 : decode cX3_init 23 = .ok (.putfield 19, 3) := gd_X3_init_23.1
theorem dX3_init_26 : decode cX3_init 26 = .ok (.aload_n 0, 1) := gd_X3_init_23.2.1
theorem dX3_init_27 : decode cX3_init 27 = .ok (.sipush 408, 3) := gd_X3_init_23.2.2.1
theorem dX3_init_30 : decode cX3_init 30 = .ok (.newarray .byte, 2) := gd_X3_init_23.2.2.2.1
theorem dX3_init_32 : decode cX3_init 32 = .ok (.putfield 23, 3) := gd_X3_init_23.2.2.2.2.1
theorem dX3_init_35 : decode cX3_init 35 = .ok (.aload_n 0, 1) := gd_X3_init_23.2.2.2.2.2.1
theorem dX3_init_36 : decode cX3_init 36 = .ok (.bipush 25, 2) := gd_X3_init_23.2.2.2.2.2.2.1
theorem dX3_init_38 : decode cX3_init 38 = .ok (.newarray .boolean, 2) := gd_X3_init_23.2.2.2.2.2.2.2.1
theorem dX3_init_40 : decode cX3_init 40 = .ok (.putfield 26, 3) := gd_X3_init_23.2.2.2.2.2.2.2.2.1
theorem dX3_init_43 : decode cX3_init 43 = .ok (.aload_n 0, 1) := gd_X3_init_23.2.2.2.2.2.2.2.2.2
theorem gd_X3_init_44 : decode cX3_init 44 = .ok (.bipush 24, 2) ∧ decode cX3_init 46 = .ok (.newarray .byte, 2) ∧ decode cX3_init 48 = .ok (.putfield 30, 3) ∧ decode cX3_init 51 = .ok (.aload_n 0, 1) ∧ decode cX3_init 52 = .ok (.new 33, 3) ∧ decode cX3_init 55 = .ok (.dup, 1) ∧ decode cX3_init 56 = .ok (.iconst 0, 1) ∧ decode cX3_init 57 = .ok (.iconst 0, 1) ∧ decode cX3_init 58 = .ok (.invokespecial 35, 3) ∧ decode cX3_init 61 = .ok (.putfield 38, 3) := by decide +kernel
theorem dX3_init_44 : decode cX3_init 44 = .ok (.bipush 24, 2) := gd_X3_init_44.1
theorem dX3_init_46 : decode cX3_init 46 = .ok (.newarray .byte, 2) := gd_X3_init_44.2.1
theorem dX3_init_48 : decode cX3_init 48 = .ok (.putfield 30, 3) := gd_X3_init_44.2.2.1
theorem dX3_init_51 : decode cX3_init 51 = .ok (.aload_n 0, 1) := gd_X3_init_44.2.2.2.1
theorem dX3_init_52 : decode cX3_init 52 = .ok (.new 33, 3) := gd_X3_init_44.2.2.2.2.1
theorem dX3_init_55 : decode cX3_init 55 = .ok (.dup, 1) := gd_X3_init_44.2.2.2.2.2.1
theorem dX3_init_56 : decode cX3_init 56 = .ok (.iconst 0, 1) := gd_X3_init_44.2.2.2.2.2.2.1
theorem dX3_init_57 : decode cX3_init 57 = .ok (.iconst 0, 1) := gd_X3_init_44.2.2.2.2.2.2.2.1
theorem dX3_init_58 : decode cX3_init 58 = .ok (.invokespecial 35, 3) := gd_X3_init_44.2.2.2.2.2.2.2.2.1
theorem dX3_init_61 : decode cX3_init 61 = .ok (.putfield 38, 3) := gd_X3_init_44.2.2.2.2.2.2.2.2.2
theorem gd_X3_init_64 : decode cX3_init 64 = .ok (.return_, 1) ∧ decode cX4_init 0 = .ok (.aload_n 0, 1) ∧ decode cX4_init 1 = .ok (.invokespecial 3, 3) ∧ decode cX4_init 4 = .ok (.aload_n 0, 1) ∧ decode cX4_init 5 = .ok (.iconst 0, 1) ∧ decode cX4_init 6 = .ok (.putfield 9, 3) ∧ decode cX4_init 9 = .ok (.aload_n 0, 1) ∧ decode cX4_init 10 = .ok (.iconst (-1), 1) ∧ decode cX4_init 11 = .ok (.putfield 15, 3) ∧ decode cX4_init 14 = .ok (.aload_n 0, 1) := by decide +kernel
theorem dX3_init_64 : decode cX3_init 64 = .ok (.return_, 1) := gd_X3_init_64.1
theorem dX4_init_0 : decode cX4_init 0 = .ok (.aload_n 0, 1) := gd_X3_init_64.2.1
theorem dX4_init_1 : decode cX4_init 1 = .ok (.invokespecial 3, 3) := gd_X3_init_64.2.2.1
theorem dX4_init_4 : decode cX4_init 4 = .ok (.aload_n 0, 1) := gd_X3_init_64.2.2.2.1
theorem dX4_init_5 : decode cX4_init 5 = .ok (.iconst 0, 1) := gd_X3_init_64.2.2.2.2.1
theorem dX4_init_6 : decode cX4_init 6 = .ok (.putfield 9, 3) := gd_X3_init_64.2.2.2.2.2.1
theorem dX4_init_9 : decode cX4_init 9 = .ok (.aload_n 0, 1) := gd_X3_init_64.2.2.2.2.2.2.1
theorem dX4_init_10 : decode cX4_init 10 = .ok (.iconst (-1), 1) := gd_X3_init_64.2.2.2.2.2.2.2.1
theorem dX4_init_11 : decode cX4_init 11 = .ok (.putfield 15, 3) := gd_X3_init_64.2.2.2.2.2.2.2.2.1
theorem dX4_init_14 : decode cX4_init 14 = .ok (.aload_n 0, 1) := gd_X3_init_64.2.2.2.2.2.2.2.2.2
theorem gd_X4_init_15 : decode cX4_init 15 = .ok (.iconst 0, 1) ∧ decode cX4_init 16 = .ok (.newarray .byte, 2) ∧ decode cX4_init 18 = .ok (.putfield 18, 3) ∧ decode cX4_init 21 = .ok (.aload_n 0, 1) ∧ decode cX4_init 22 = .ok (.iconst 0, 1) ∧ decode cX4_init 23 = .ok (.putfield 22, 3) ∧ decode cX4_init 26 = .ok (.aload_n 0, 1) ∧ decode cX4_init 27 = .ok (.iconst 0, 1) ∧ decode cX4_init 28 = .ok (.putfield 25, 3) ∧ decode cX4_init 31 = .ok (.aload_n 0, 1) := by decide +kernel
theorem dX4_init_15 : decode cX4_init 15 = .ok (.iconst 0, 1) := gd_X4_init_15.1
theorem dX4_init_16 : decode cX4_init 16 = .ok (.newarray .byte, 2) := gd_X4_init_15.2.1
theorem dX4_init_18 : decode cX4_init 18 = .ok (.putfield 18, 3) := gd_X4_init_15.2.2.1
theorem dX4_init_21 : decode cX4_init 21 = .ok (.aload_n 0, 1) := gd_X4_init_15.2.2.2.1
theorem dX4_init_22 : decode cX4_init 22 = .ok (.iconst 0, 1) := gd_X4_init_15.2.2.2.2.1
theorem dX4_init_23 : decode cX4_init 23 = .ok (.putfield 22, 3) := gd_X4_init_15.2.2.2.2.2.1
theorem dX4_init_26 : decode cX4_init 26 = .ok (.aload_n 0, 1) := gd_X4_init_15.2.2.2.2.2.2.1
theorem dX4_init_27 : decode cX4_init 27 = .ok (.iconst 0, 1) := gd_X4_init_15.2.2.2.2.2.2.2.1
theorem dX4_init_28 : decode cX4_init 28 = .ok (.putfield 25, 3) := gd_X4_init_15.2.2.2.2.2.2.2.2.1
theorem dX4_init_31 : decode cX4_init 31 = .ok (.aload_n 0, 1) := gd_X4_init_15.2.2.2.2.2.2.2.2.2
theorem gd_X4_init_32 : decode cX4_init 32 = .ok (.iconst 0, 1) ∧ decode cX4_init 33 = .ok (.putfield 28, 3) ∧ decode cX4_init 36 = .ok (.aload_n 0, 1) ∧ decode cX4_init 37 = .ok (.iconst 0, 1) ∧ decode cX4_init 38 = .ok (.putfield 31, 3) ∧ decode cX4_init 41 = .ok (.aload_n 0, 1) ∧ decode cX4_init 42 = .ok (.iconst 0, 1) ∧ decode cX4_init 43 = .ok (.putfield 34, 3) ∧ decode cX4_init 46 = .ok (.aload_n 0, 1) ∧ decode cX4_init 47 = .ok (.iconst 0, 1) := by decide +kernel
theorem dX4_init_32 : decode cX4_init 32 = .ok (.iconst 0, 1) := gd_X4_init_32.1
theorem dX4_init_33 : decode cX4_init 33 = .ok (.putfield 28, 3) := gd_X4_init_32.2.1
theorem dX4_init_36 : decode cX4_init 36 = .ok (.aload_n 0, 1) := gd_X4_init_32.2.2.1
theorem dX4_init_37 : decode cX4_init 37 = .ok (.iconst 0, 1) := gd_X4_init_32.2.2.2.1
theorem dX4_init_38 : decode cX4_init 38 = .ok (.putfield 31, 3) := gd_X4_init_32.2.2.2.2.1
theorem dX4_init_41 : decode cX4_init 41 = .ok (.aload_n 0, 1) := gd_X4_init_32.2.2.2.2.2.1
theorem dX4_init_42 : decode cX4_init 42 = .ok (.iconst 0, 1) := gd_X4_init_32.2.2.2.2.2.2.1
theorem dX4_init_43 : decode cX4_init 43 = .ok (.putfield 34, 3) := gd_X4_init_32.2.2.2.2.2.2.2.1
theorem dX4_init_46 : decode cX4_init 46 = .ok (.aload_n 0, 1) := gd_X4_init_32.2.2.2.2.2.2.2.2.1
theorem dX4_init_47 : decode cX4_init 47 = .ok (.iconst 0, 1) := gd_X4_init_32.2.2.2.2.2.2.2.2.2
theorem gd_X4_init_48 : decode cX4_init 48 = .ok (.putfield 37, 3) ∧ decode cX4_init 51 = .ok (.return_, 1) ∧ decode cX4_read 0 = .ok (.aload_n 0, 1) ∧ decode cX4_read 1 = .ok (.aload_n 1, 1) ∧ decode cX4_read 2 = .ok (.putfield 18, 3) ∧ decode cX4_read 5 = .ok (.aload_n 0, 1) ∧ decode cX4_read 6 = .ok (.iload_n 2, 1) ∧ decode cX4_read 7 = .ok (.aload_n 1, 1) ∧ decode cX4_read 8 = .ok (.arraylength, 1) ∧ decode cX4_read 9 = .ok (.invokestatic 40, 3) := by decide +kernel
theorem dX4_init_48 : decode cX4_init 48 = .ok (.putfield 37, 3) := gd_X4_init_48.1
theorem dX4_init_51 : decode cX4_init 51 = .ok (.return_, 1) := gd_X4_init_48.2.1
theorem dX4_read_0 : decode cX4_read 0 = .ok (.aload_n 0, 1) := gd_X4_init_48.2.2.1
theorem dX4_read_1 : decode cX4_read 1 = .ok (.aload_n 1, 1) := gd_X4_init_48.2.2.2.1
theorem dX4_read_2 : decode cX4_read 2 = .ok (.putfield 18, 3) := gd_X4_init_48.2.2.2.2.1
theorem dX4_read_5 : decode cX4_read 5 = .ok (.aload_n 0, 1) := gd_X4_init_48.2.2.2.2.2.1
theorem dX4_read_6 : decode cX4_read 6 = .ok (.iload_n 2, 1) := gd_X4_init_48.2.2.2.2.2.2.1
theorem dX4_read_7 : decode cX4_read 7 = .ok (.aload_n 1, 1) := gd_X4_init_48.2.2.2.2.2.2.2.1
theorem dX4_read_8 : decode cX4_read 8 = .ok (.arraylength, 1) := gd_X4_init_48.2.2.2.2.2.2.2.2.1
theorem dX4_read_9 : decode cX4_read 9 = .ok (.invokestatic 40, 3) := gd_X4_init_48.2.2.2.2.2.2.2.2.2
theorem gd_X4_read_12 : decode cX4_read 12 = .ok (.putfield 22, 3) ∧ decode cX4_read 15 = .ok (.aload_n 0, 1) ∧ decode cX4_read 16 = .ok (.iconst 0, 1) ∧ decode cX4_read 17 = .ok (.putfield 25, 3) ∧ decode cX4_read 20 = .ok (.aload_n 0, 1) ∧ decode cX4_read 21 = .ok (.iconst 0, 1) ∧ decode cX4_read 22 = .ok (.putfield 9, 3) ∧ decode cX4_read 25 = .ok (.aload_n 0, 1) ∧ decode cX4_read 26 = .ok (.iconst (-1), 1) ∧ decode cX4_read 27 = .ok (.putfield 15, 3) := by decide +kernel
theorem dX4_read_12 : decode cX4_read 12 = .ok (.putfield 22, 3) := gd_X4_read_12.1
theorem dX4_read_15 : decode cX4_read 15 = .ok (.aload_n 0, 1) := gd_X4_read_12.2.1
theorem dX4_read_16 : decode cX4_read 16 = .ok (.iconst 0, 1) := gd_X4_read_12.2.2.1
theorem dX4_read_17 : decode cX4_read 17 = .ok (.putfield 25, 3) := gd_X4_read_12.2.2.2.1
theorem dX4_read_20 : decode cX4_read 20 = .ok (.aload_n 0, 1) := gd_X4_read_12.2.2.2.2.1
theorem dX4_read_21 : decode cX4_read 21 = .ok (.iconst 0, 1) := gd_X4_read_12.2.2.2.2.2.1
theorem dX4_read_22 : decode cX4_read 22 = .ok (.putfield 9, 3) := gd_X4_read_12.2.2.2.2.2.2.1
theorem dX4_read_25 : decode cX4_read 25 = .ok (.aload_n 0, 1) := gd_X4_read_12.2.2.2.2.2.2.2.1
theorem dX4_read_26 : decode cX4_read 26 = .ok (.iconst (-1), 1) := gd_X4_read_12.2.2.2.2.2.2.2.2.1
theorem dX4_read_27 : decode cX4_read 27 = .ok (.putfield 15, 3) := gd_X4_read_12.2.2.2.2.2.2.2.2.2
theorem gd_X4_read_30 : decode cX4_read 30 = .ok (.iconst 0, 1) ∧ decode cX4_read 31 = .ok (.istore 4, 2) ∧ decode cX4_read 33 = .ok (.iload 4, 2) ∧ decode cX4_read 35 = .ok (.aload_n 0, 1) ∧ decode cX4_read 36 = .ok (.getfield 22, 3) ∧ decode cX4_read 39 = .ok (.if_icmp .gt 102, 3) ∧ decode cX4_read 42 = .ok (.aload_n 0, 1) ∧ decode cX4_read 43 = .ok (.getfield 9, 3) ∧ decode cX4_read 46 = .ok (.ifCond .ne 95, 3) ∧ decode cX4_read 49 = .ok (.aload_n 0, 1) := by decide +kernel
theorem dX4_read_30 : decode cX4_read 30 = .ok (.iconst 0, 1) := gd_X4_read_30.1
theorem dX4_read_31 : decode cX4_read 31 = .ok (.istore 4, 2) := gd_X4_read_30.2.1
theorem dX4_read_33 : decode cX4_read 33 = .ok (.iload 4, 2) := gd_X4_read_30.2.2.1
theorem dX4_read_35 : decode cX4_read 35 = .ok (.aload_n 0, 1) := gd_X4_read_30.2.2.2.1
theorem dX4_read_36 : decode cX4_read 36 = .ok (.getfield 22, 3) := gd_X4_read_30.2.2.2.2.1
theorem dX4_read_39 : decode cX4_read 39 = .ok (.if_icmp .gt 102, 3) := gd_X4_read_30.2.2.2.2.2.1
theorem dX4_read_42 : decode cX4_read 42 = .ok (.aload_n 0, 1) := gd_X4_read_30.2.2.2.2.2.2.1
theorem dX4_read_43 : decode cX4_read 43 = .ok (.getfield 9, 3) := gd_X4_read_30.2.2.2.2.2.2.2.1
theorem dX4_read_46 : decode cX4_read 46 = .ok (.ifCond .ne 95, 3) := gd_X4_read_30.2.2.2.2.2.2.2.2.1
theorem dX4_read_49 : decode cX4_read 49 = .ok (.aload_n 0, 1) := gd_X4_read_30.2.2.2.2.2.2.2.2.2
theorem gd_X4_read_50 : decode cX4_read 50 = .ok (.invokevirtual 46, 3) ∧ decode cX4_read 53 = .ok (.aload_n 0, 1) ∧ decode cX4_read 54 = .ok (.getfield 28, 3) ∧ decode cX4_read 57 = .ok (.ifCond .ne 4, 3) ∧ decode cX4_read 60 = .ok (.return_, 1) ∧ decode cX4_nextToken 0 = .ok (.aload_n 0, 1) ∧ decode cX4_nextToken 1 = .ok (.getfield 25, 3) ∧ decode cX4_nextToken 4 = .ok (.aload_n 0, 1) ∧ decode cX4_nextToken 5 = .ok (.getfield 22, 3) ∧ decode cX4_nextToken 8 = .ok (.if_icmp .ge 44, 3) := by decide +kernel
theorem dX4_read_50 : decode cX4_read 50 = .ok (.invokevirtual 46, 3) := gd_X4_read_50.1
theorem dX4_read_53 : decode cX4_read 53 = .ok (.aload_n 0, 1) := gd_X4_read_50.2.1
theorem dX4_read_54 : decode cX4_read 54 = .ok (.getfield 28, 3) := gd_X4_read_50.2.2.1
theorem dX4_read_57 : decode cX4_read 57 = .ok (.ifCond .ne 4, 3) := gd_X4_read_50.2.2.2.1
theorem dX4_read_60 : decode cX4_read 60 = .ok (.return_, 1) := gd_X4_read_50.2.2.2.2.1
theorem dX4_nextToken_0 : decode cX4_nextToken 0 = .ok (.aload_n 0, 1) := gd_X4_read_50.2.2.2.2.2.1
theorem dX4_nextToken_1 : decode cX4_nextToken 1 = .ok (.getfield 25, 3) := gd_X4_read_50.2.2.2.2.2.2.1
theorem dX4_nextToken_4 : decode cX4_nextToken 4 = .ok (.aload_n 0, 1) := gd_X4_read_50.2.2.2.2.2.2.2.1
theorem dX4_nextToken_5 : decode cX4_nextToken 5 = .ok (.getfield 22, 3) := gd_X4_read_50.2.2.2.2.2.2.2.2.1
theorem dX4_nextToken_8 : decode cX4_nextToken 8 = .ok (.if_icmp .ge 44, 3) := gd_X4_read_50.2.2.2.2.2.2.2.2.2
theorem gd_X4_nextToken_52 : decode cX4_nextToken 52 = .ok (.aload_n 0, 1) ∧ decode cX4_nextToken 53 = .ok (.aload_n 0, 1) ∧ decode cX4_nextToken 54 = .ok (.getfield 25, 3) ∧ decode cX4_nextToken 57 = .ok (.putfield 31, 3) ∧ decode cX4_nextToken 60 = .ok (.aload_n 0, 1) ∧ decode cX4_nextToken 61 = .ok (.iconst 0, 1) ∧ decode cX4_nextToken 62 = .ok (.putfield 37, 3) ∧ decode cX4_nextToken 65 = .ok (.aload_n 0, 1) ∧ decode cX4_nextToken 66 = .ok (.getfield 25, 3) ∧ decode cX4_nextToken 69 = .ok (.aload_n 0, 1) := by decide +kernel
theorem dX4_nextToken_52 : decode cX4_nextToken 52 = .ok (.aload_n 0, 1) := gd_X4_nextToken_52.1
theorem dX4_nextToken_53 : decode cX4_nextToken 53 = .ok (.aload_n 0, 1) := gd_X4_nextToken_52.2.1
theorem dX4_nextToken_54 : decode cX4_nextToken 54 = .ok (.getfield 25, 3) := gd_X4_nextToken_52.2.2.1
theorem dX4_nextToken_57 : decode cX4_nextToken 57 = .ok (.putfield 31, 3) := gd_X4_nextToken_52.2.2.2.1
theorem dX4_nextToken_60 : decode cX4_nextToken 60 = .ok (.aload_n 0, 1) := gd_X4_nextToken_52.2.2.2.2.1
theorem dX4_nextToken_61 : decode cX4_nextToken 61 = .ok (.iconst 0, 1) := gd_X4_nextToken_52.2.2.2.2.2.1
theorem dX4_nextToken_62 : decode cX4_nextToken 62 = .ok (.putfield 37, 3) := gd_X4_nextToken_52.2.2.2.2.2.2.1
theorem dX4_nextToken_65 : decode cX4_nextToken 65 = .ok (.aload_n 0, 1) := gd_X4_nextToken_52.2.2.2.2.2.2.2.1
theorem dX4_nextToken_66 : decode cX4_nextToken 66 = .ok (.getfield 25, 3) := gd_X4_nextToken_52.2.2.2.2.2.2.2.2.1
theorem dX4_nextToken_69 : decode cX4_nextToken 69 = .ok (.aload_n 0, 1) := gd_X4_nextToken_52.2.2.2.2.2.2.2.2.2
theorem gd_X4_nextToken_70 : decode cX4_nextToken 70 = .ok (.getfield 22, 3) ∧ decode cX4_nextToken 73 = .ok (.if_icmp .lt 11, 3) ∧ decode cX4_nextToken 76 = .ok (.aload_n 0, 1) ∧ decode cX4_nextToken 77 = .ok (.iconst 0, 1) ∧ decode cX4_nextToken 78 = .ok (.putfield 28, 3) ∧ decode cX4_nextToken 81 = .ok (.goto 136, 3) ∧ decode cX4_nextToken 217 = .ok (.return_, 1) ∧ decode cX5_init 0 = .ok (.aload_n 0, 1) ∧ decode cX5_init 1 = .ok (.invokespecial 3, 3) ∧ decode cX5_init 4 = .ok (.aload_n 0, 1) := by decide +kernel
theorem dX4_nextToken_70 : decode cX4_nextToken 70 = .ok (.getfield 22, 3) := gd_X4_nextToken_70.1
theorem dX4_nextToken_73 : decode cX4_nextToken 73 = .ok (.if_icmp .lt 11, 3) := gd_X4_nextToken_70.2.1
theorem dX4_nextToken_76 : decode cX4_nextToken 76 = .ok (.aload_n 0, 1) := gd_X4_nextToken_70.2.2.1
theorem dX4_nextToken_77 : decode cX4_nextToken 77 = .ok (.iconst 0, 1) := gd_X4_nextToken_70.2.2.2.1
theorem dX4_nextToken_78 : decode cX4_nextToken 78 = .ok (.putfield 28, 3) := gd_X4_nextToken_70.2.2.2.2.1
theorem dX4_nextToken_81 : decode cX4_nextToken 81 = .ok (.goto 136, 3) := gd_X4_nextToken_70.2.2.2.2.2.1
theorem dX4_nextToken_217 : decode cX4_nextToken 217 = .ok (.return_, 1) := gd_X4_nextToken_70.2.2.2.2.2.2.1
theorem dX5_init_0 : decode cX5_init 0 = .ok (.aload_n 0, 1) := gd_X4_nextToken_70.2.2.2.2.2.2.2.1
theorem dX5_init_1 : decode cX5_init 1 = .ok (.invokespecial 3, 3) := gd_X4_nextToken_70.2.2.2.2.2.2.2.2.1
theorem dX5_init_4 : decode cX5_init 4 = .ok (.aload_n 0, 1) := gd_X4_nextToken_70.2.2.2.2.2.2.2.2.2
theorem gd_X5_init_5 : decode cX5_init 5 = .ok (.iconst 0, 1) ∧ decode cX5_init 6 = .ok (.putfield 9, 3) ∧ decode cX5_init 9 = .ok (.aload_n 0, 1) ∧ decode cX5_init 10 = .ok (.bipush 40, 2) ∧ decode cX5_init 12 = .ok (.anewarray 15, 3) ∧ decode cX5_init 15 = .ok (.putfield 17, 3) ∧ decode cX5_init 18 = .ok (.aload_n 0, 1) ∧ decode cX5_init 19 = .ok (.iconst 0, 1) ∧ decode cX5_init 20 = .ok (.putfield 21, 3) ∧ decode cX5_init 23 = .ok (.aload_n 0, 1) := by decide +kernel
theorem dX5_init_5 : decode cX5_init 5 = .ok (.iconst 0, 1) := gd_X5_init_5.1
theorem dX5_init_6 : decode cX5_init 6 = .ok (.putfield 9, 3) := gd_X5_init_5.2.1
theorem dX5_init_9 : decode cX5_init 9 = .ok (.aload_n 0, 1) := gd_X5_init_5.2.2.1
theorem dX5_init_10 : decode cX5_init 10 = .ok (.bipush 40, 2) := gd_X5_init_5.2.2.2.1
theorem dX5_init_12 : decode cX5_init 12 = .ok (.anewarray 15, 3) := gd_X5_init_5.2.2.2.2.1
theorem dX5_init_15 : decode cX5_init 15 = .ok (.putfield 17, 3) := gd_X5_init_5.2.2.2.2.2.1
theorem dX5_init_18 : decode cX5_init 18 = .ok (.aload_n 0, 1) := gd_X5_init_5.2.2.2.2.2.2.1
theorem dX5_init_19 : decode cX5_init 19 = .ok (.iconst 0, 1) := gd_X5_init_5.2.2.2.2.2.2.2.1
theorem dX5_init_20 : decode cX5_init 20 = .ok (.putfield 21, 3) := gd_X5_init_5.2.2.2.2.2.2.2.2.1
theorem dX5_init_23 : decode cX5_init 23 = .ok (.aload_n 0, 1) := gd_X5_init_5.2.2.2.2.2.2.2.2.2
theorem gd_X5_init_24 : decode cX5_init 24 = .ok (.new 24, 3) ∧ decode cX5_init 27 = .ok (.dup, 1) ∧ decode cX5_init 28 = .ok (.bipush 40, 2) ∧ decode cX5_init 30 = .ok (.bipush 16, 2) ∧ decode cX5_init 32 = .ok (.invokespecial 26, 3) ∧ decode cX5_init 35 = .ok (.putfield 29, 3) ∧ decode cX5_init 38 = .ok (.aload_n 0, 1) ∧ decode cX5_init 39 = .ok (.new 24, 3) ∧ decode cX5_init 42 = .ok (.dup, 1) ∧ decode cX5_init 43 = .ok (.bipush 40, 2) := by decide +kernel
theorem dX5_init_24 : decode cX5_init 24 = .ok (.new 24, 3) := gd_X5_init_24.1
theorem dX5_init_27 : decode cX5_init 27 = .ok (.dup, 1) := gd_X5_init_24.2.1
theorem dX5_init_28 : decode cX5_init 28 = .ok (.bipush 40, 2) := gd_X5_init_24.2.2.1
theorem dX5_init_30 : decode cX5_init 30 = .ok (.bipush 16, 2) := gd_X5_init_24.2.2.2.1
theorem dX5_init_32 : decode cX5_init 32 = .ok (.invokespecial 26, 3) := gd_X5_init_24.2.2.2.2.1
theorem dX5_init_35 : decode cX5_init 35 = .ok (.putfield 29, 3) := gd_X5_init_24.2.2.2.2.2.1
theorem dX5_init_38 : decode cX5_init 38 = .ok (.aload_n 0, 1) := gd_X5_init_24.2.2.2.2.2.2.1
theorem dX5_init_39 : decode cX5_init 39 = .ok (.new 24, 3) := gd_X5_init_24.2.2.2.2.2.2.2.1
theorem dX5_init_42 : decode cX5_init 42 = .ok (.dup, 1) := gd_X5_init_24.2.2.2.2.2.2.2.2.1
theorem dX5_init_43 : decode cX5_init 43 = .ok (.bipush 40, 2) := gd_X5_init_24.2.2.2.2.2.2.2.2.2
theorem gd_X5_init_45 : decode cX5_init 45 = .ok (.bipush 16, 2) ∧ decode cX5_init 47 = .ok (.invokespecial 26, 3) ∧ decode cX5_init 50 = .ok (.putfield 33, 3) ∧ decode cX5_init 53 = .ok (.aload_n 0, 1) ∧ decode cX5_init 54 = .ok (.new 24, 3) ∧ decode cX5_init 57 = .ok (.dup, 1) ∧ decode cX5_init 58 = .ok (.bipush 40, 2) ∧ decode cX5_init 60 = .ok (.bipush 16, 2) ∧ decode cX5_init 62 = .ok (.invokespecial 26, 3) ∧ decode cX5_init 65 = .ok (.putfield 36, 3) := by decide +kernel
theorem dX5_init_45 : decode cX5_init 45 = .ok (.bipush 16, 2) := gd_X5_init_45.1
theorem dX5_init_47 : decode cX5_init 47 = .ok (.invokespecial 26, 3) := gd_X5_init_45.2.1
theorem dX5_init_50 : decode cX5_init 50 = .ok (.putfield 33, 3) := gd_X5_init_45.2.2.1
theorem dX5_init_53 : decode cX5_init 53 = .ok (.aload_n 0, 1) := gd_X5_init_45.2.2.2.1
theorem dX5_init_54 : decode cX5_init 54 = .ok (.new 24, 3) := gd_X5_init_45.2.2.2.2.1
theorem dX5_init_57 : decode cX5_init 57 = .ok (.dup, 1) := gd_X5_init_45.2.2.2.2.2.1
theorem dX5_init_58 : decode cX5_init 58 = .ok (.bipush 40, 2) := gd_X5_init_45.2.2.2.2.2.2.1
theorem dX5_init_60 : decode cX5_init 60 = .ok (.bipush 16, 2) := gd_X5_init_45.2.2.2.2.2.2.2.1
theorem dX5_init_62 : decode cX5_init 62 = .ok (.invokespecial 26, 3) := gd_X5_init_45.2.2.2.2.2.2.2.2.1
theorem dX5_init_65 : decode cX5_init 65 = .ok (.putfield 36, 3) := gd_X5_init_45.2.2.2.2.2.2.2.2.2
theorem gd_X5_init_68 : decode cX5_init 68 = .ok (.aload_n 0, 1) ∧ decode cX5_init 69 = .ok (.bipush 40, 2) ∧ decode cX5_init 71 = .ok (.newarray .boolean, 2) ∧ decode cX5_init 73 = .ok (.putfield 39, 3) ∧ decode cX5_init 76 = .ok (.aload_n 0, 1) ∧ decode cX5_init 77 = .ok (.iconst 0, 1) ∧ decode cX5_init 78 = .ok (.putfield 43, 3) ∧ decode cX5_init 81 = .ok (.aload_n 0, 1) ∧ decode cX5_init 82 = .ok (.new 24, 3) ∧ decode cX5_init 85 = .ok (.dup, 1) := by decide +kernel
theorem dX5_init_68 : decode cX5_init 68 = .ok (.aload_n 0, 1) := gd_X5_init_68.1
theorem dX5_init_69 : decode cX5_init 69 = .ok (.bipush 40, 2) := gd_X5_init_68.2.1
theorem dX5_init_71 : decode cX5_init 71 = .ok (.newarray .boolean, 2) := gd_X5_init_68.2.2.1
theorem dX5_init_73 : decode cX5_init 73 = .ok (.putfield 39, 3) := gd_X5_init_68.2.2.2.1
theorem dX5_init_76 : decode cX5_init 76 = .ok (.aload_n 0, 1) := gd_X5_init_68.2.2.2.2.1
theorem dX5_init_77 : decode cX5_init 77 = .ok (.iconst 0, 1) := gd_X5_init_68.2.2.2.2.2.1
theorem dX5_init_78 : decode cX5_init 78 = .ok (.putfield 43, 3) := gd_X5_init_68.2.2.2.2.2.2.1
theorem dX5_init_81 : decode cX5_init 81 = .ok (.aload_n 0, 1) := gd_X5_init_68.2.2.2.2.2.2.2.1
theorem dX5_init_82 : decode cX5_init 82 = .ok (.new 24, 3) := gd_X5_init_68.2.2.2.2.2.2.2.2.1
theorem dX5_init_85 : decode cX5_init 85 = .ok (.dup, 1) := gd_X5_init_68.2.2.2.2.2.2.2.2.2
theorem gd_X5_init_86 : decode cX5_init 86 = .ok (.bipush 40, 2) ∧ decode cX5_init 88 = .ok (.bipush 24, 2) ∧ decode cX5_init 90 = .ok (.invokespecial 26, 3) ∧ decode cX5_init 93 = .ok (.putfield 46, 3) ∧ decode cX5_init 96 = .ok (.aload_n 0, 1) ∧ decode cX5_init 97 = .ok (.bipush 40, 2) ∧ decode cX5_init 99 = .ok (.newarray .boolean, 2) ∧ decode cX5_init 101 = .ok (.putfield 49, 3) ∧ decode cX5_init 104 = .ok (.aload_n 0, 1) ∧ decode cX5_init 105 = .ok (.bipush 40, 2) := by decide +kernel
theorem dX5_init_86 : decode cX5_init 86 = .ok (.bipush 40, 2) := gd_X5_init_86.1
theorem dX5_init_88 : decode cX5_init 88 = .ok (.bipush 24, 2) := gd_X5_init_86.2.1
theorem dX5_init_90 : decode cX5_init 90 = .ok (.invokespecial 26, 3) := gd_X5_init_86.2.2.1
theorem dX5_init_93 : decode cX5_init 93 = .ok (.putfield 46, 3) := gd_X5_init_86.2.2.2.1
theorem dX5_init_96 : decode cX5_init 96 = .ok (.aload_n 0, 1) := gd_X5_init_86.2.2.2.2.1
theorem dX5_init_97 : decode cX5_init 97 = .ok (.bipush 40, 2) := gd_X5_init_86.2.2.2.2.2.1
theorem dX5_init_99 : decode cX5_init 99 = .ok (.newarray .boolean, 2) := gd_X5_init_86.2.2.2.2.2.2.1
theorem dX5_init_101 : decode cX5_init 101 = .ok (.putfield 49, 3) := gd_X5_init_86.2.2.2.2.2.2.2.1
theorem dX5_init_104 : decode cX5_init 104 = .ok (.aload_n 0, 1) := gd_X5_init_86.2.2.2.2.2.2.2.2.1
theorem dX5_init_105 : decode cX5_init 105 = .ok (.bipush 40, 2) := gd_X5_init_86.2.2.2.2.2.2.2.2.2
theorem gd_X5_init_107 : decode cX5_init 107 = .ok (.newarray .long, 2) ∧ decode cX5_init 109 = .ok (.putfield 52, 3) ∧ decode cX5_init 112 = .ok (.return_, 1) ∧ decode cX5_clear 0 = .ok (.aload_n 0, 1) ∧ decode cX5_clear 1 = .ok (.iload_n 1, 1) ∧ decode cX5_clear 2 = .ok (.putfield 9, 3) ∧ decode cX5_clear 5 = .ok (.aload_n 0, 1) ∧ decode cX5_clear 6 = .ok (.iconst 0, 1) ∧ decode cX5_clear 7 = .ok (.putfield 21, 3) ∧ decode cX5_clear 10 = .ok (.aload_n 0, 1) := by decide +kernel
theorem dX5_init_107 : decode cX5_init 107 = .ok (.newarray .long, 2) := gd_X5_init_107.1
theorem dX5_init_109 : decode cX5_init 109 = .ok (.putfield 52, 3) := gd_X5_init_107.2.1
theorem dX5_init_112 : decode cX5_init 112 = .ok (.return_, 1) := gd_X5_init_107.2.2.1
theorem dX5_clear_0 : decode cX5_clear 0 = .ok (.aload_n 0, 1) := gd_X5_init_107.2.2.2.1
theorem dX5_clear_1 : decode cX5_clear 1 = .ok (.iload_n 1, 1) := gd_X5_init_107.2.2.2.2.1
theorem dX5_clear_2 : decode cX5_clear 2 = .ok (.putfield 9, 3) := gd_X5_init_107.2.2.2.2.2.1
theorem dX5_clear_5 : decode cX5_clear 5 = .ok (.aload_n 0, 1) := gd_X5_init_107.2.2.2.2.2.2.1
theorem dX5_clear_6 : decode cX5_clear 6 = .ok (.iconst 0, 1) := gd_X5_init_107.2.2.2.2.2.2.2.1
theorem dX5_clear_7 : decode cX5_clear 7 = .ok (.putfield 21, 3) := gd_X5_init_107.2.2.2.2.2.2.2.2.1
theorem dX5_clear_10 : decode cX5_clear 10 = .ok (.aload_n 0, 1) := gd_X5_init_107.2.2.2.2.2.2.2.2.2
theorem gd_X5_clear_11 : decode cX5_clear 11 = .ok (.getfield 29, 3) ∧ decode cX5_clear 14 = .ok (.iconst 0, 1) ∧ decode cX5_clear 15 = .ok (.putfield 56, 3) ∧ decode cX5_clear 18 = .ok (.aload_n 0, 1) ∧ decode cX5_clear 19 = .ok (.getfield 33, 3) ∧ decode cX5_clear 22 = .ok (.iconst 0, 1) ∧ decode cX5_clear 23 = .ok (.putfield 56, 3) ∧ decode cX5_clear 26 = .ok (.aload_n 0, 1) ∧ decode cX5_clear 27 = .ok (.getfield 36, 3) ∧ decode cX5_clear 30 = .ok (.iconst 0, 1) := by decide +kernel
theorem dX5_clear_11 : decode cX5_clear 11 = .ok (.getfield 29, 3) := gd_X5_clear_11.1
theorem dX5_clear_14 : decode cX5_clear 14 = .ok (.iconst 0, 1) := gd_X5_clear_11.2.1
theorem dX5_clear_15 : decode cX5_clear 15 = .ok (.putfield 56, 3) := gd_X5_clear_11.2.2.1
theorem dX5_clear_18 : decode cX5_clear 18 = .ok (.aload_n 0, 1) := gd_X5_clear_11.2.2.2.1
theorem dX5_clear_19 : decode cX5_clear 19 = .ok (.getfield 33, 3) := gd_X5_clear_11.2.2.2.2.1
theorem dX5_clear_22 : decode cX5_clear 22 = .ok (.iconst 0, 1) := gd_X5_clear_11.2.2.2.2.2.1
theorem dX5_clear_23 : decode cX5_clear 23 = .ok (.putfield 56, 3) := gd_X5_clear_11.2.2.2.2.2.2.1
theorem dX5_clear_26 : decode cX5_clear 26 = .ok (.aload_n 0, 1) := gd_X5_clear_11.2.2.2.2.2.2.2.1
theorem dX5_clear_27 : decode cX5_clear 27 = .ok (.getfield 36, 3) := gd_X5_clear_11.2.2.2.2.2.2.2.2.1
theorem dX5_clear_30 : decode cX5_clear 30 = .ok (.iconst 0, 1) := gd_X5_clear_11.2.2.2.2.2.2.2.2.2
theorem gd_X5_clear_31 : decode cX5_clear 31 = .ok (.putfield 56, 3) ∧ decode cX5_clear 34 = .ok (.aload_n 0, 1) ∧ decode cX5_clear 35 = .ok (.iconst 0, 1) ∧ decode cX5_clear 36 = .ok (.putfield 43, 3) ∧ decode cX5_clear 39 = .ok (.aload_n 0, 1) ∧ decode cX5_clear 40 = .ok (.getfield 46, 3) ∧ decode cX5_clear 43 = .ok (.iconst 0, 1) ∧ decode cX5_clear 44 = .ok (.putfield 56, 3) ∧ decode cX5_clear 47 = .ok (.return_, 1) ∧ decode cX6_init 0 = .ok (.aload_n 0, 1) := by decide +kernel
theorem dX5_clear_31 : decode cX5_clear 31 = .ok (.putfield 56, 3) := gd_X5_clear_31.1
theorem dX5_clear_34 : decode cX5_clear 34 = .ok (.aload_n 0, 1) := gd_X5_clear_31.2.1
theorem dX5_clear_35 : decode cX5_clear 35 = .ok (.iconst 0, 1) := gd_X5_clear_31.2.2.1
theorem dX5_clear_36 : decode cX5_clear 36 = .ok (.putfield 43, 3) := gd_X5_clear_31.2.2.2.1
theorem dX5_clear_39 : decode cX5_clear 39 = .ok (.aload_n 0, 1) := gd_X5_clear_31.2.2.2.2.1
theorem dX5_clear_40 : decode cX5_clear 40 = .ok (.getfield 46, 3) := gd_X5_clear_31.2.2.2.2.2.1
theorem dX5_clear_43 : decode cX5_clear 43 = .ok (.iconst 0, 1) := gd_X5_clear_31.2.2.2.2.2.2.1
theorem dX5_clear_44 : decode cX5_clear 44 = .ok (.putfield 56, 3) := gd_X5_clear_31.2.2.2.2.2.2.2.1
theorem dX5_clear_47 : decode cX5_clear 47 = .ok (.return_, 1) := gd_X5_clear_31.2.2.2.2.2.2.2.2.1
theorem dX6_init_0 : decode cX6_init 0 = .ok (.aload_n 0, 1) := gd_X5_clear_31.2.2.2.2.2.2.2.2.2
theorem gd_X6_init_1 : decode cX6_init 1 = .ok (.invokespecial 3, 3) ∧ decode cX6_init 4 = .ok (.aload_n 0, 1) ∧ decode cX6_init 5 = .ok (.sipush 2500, 3) ∧ decode cX6_init 8 = .ok (.newarray .byte, 2) ∧ decode cX6_init 10 = .ok (.putfield 9, 3) ∧ decode cX6_init 13 = .ok (.aload_n 0, 1) ∧ decode cX6_init 14 = .ok (.sipush 2500, 3) ∧ decode cX6_init 17 = .ok (.newarray .byte, 2) ∧ decode cX6_init 19 = .ok (.putfield 15, 3) ∧ decode cX6_init 22 = .ok (.aload_n 0, 1) := by decide +kernel
theorem dX6_init_1 : decode cX6_init 1 = .ok (.invokespecial 3, 3) := gd_X6_init_1.1
theorem dX6_init_4 : decode cX6_init 4 = .ok (.aload_n 0, 1) := gd_X6_init_1.2.1
theorem dX6_init_5 : decode cX6_init 5 = .ok (.sipush 2500, 3) := gd_X6_init_1.2.2.1
theorem dX6_init_8 : decode cX6_init 8 = .ok (.newarray .byte, 2) := gd_X6_init_1.2.2.2.1
theorem dX6_init_10 : decode cX6_init 10 = .ok (.putfield 9, 3) := gd_X6_init_1.2.2.2.2.1
theorem dX6_init_13 : decode cX6_init 13 = .ok (.aload_n 0, 1) := gd_X6_init_1.2.2.2.2.2.1
theorem dX6_init_14 : decode cX6_init 14 = .ok (.sipush 2500, 3) := gd_X6_init_1.2.2.2.2.2.2.1
theorem dX6_init_17 : decode cX6_init 17 = .ok (.newarray .byte, 2) := gd_X6_init_1.2.2.2.2.2.2.2.1
theorem dX6_init_19 : decode cX6_init 19 = .ok (.putfield 15, 3) := gd_X6_init_1.2.2.2.2.2.2.2.2.1
theorem dX6_init_22 : decode cX6_init 22 = .ok (.aload_n 0, 1) := gd_X6_init_1.2.2.2.2.2.2.2.2.2
theorem gd_X6_init_23 : decode cX6_init 23 = .ok (.iconst 5, 1) ∧ decode cX6_init 24 = .ok (.newarray .int, 2) ∧ decode cX6_init 26 = .ok (.putfield 18, 3) ∧ decode cX6_init 29 = .ok (.aload_n 0, 1) ∧ decode cX6_init 30 = .ok (.iconst 5, 1) ∧ decode cX6_init 31 = .ok (.newarray .int, 2) ∧ decode cX6_init 33 = .ok (.putfield 22, 3) ∧ decode cX6_init 36 = .ok (.aload_n 0, 1) ∧ decode cX6_init 37 = .ok (.iconst 0, 1) ∧ decode cX6_init 38 = .ok (.putfield 25, 3) := by decide +kernel
theorem dX6_init_23 : decode cX6_init 23 = .ok (.iconst 5, 1) := gd_X6_init_23.1
theorem dX6_init_24 : decode cX6_init 24 = .ok (.newarray .int, 2) := gd_X6_init_23.2.1
theorem dX6_init_26 : decode cX6_init 26 = .ok (.putfield 18, 3) := gd_X6_init_23.2.2.1
theorem dX6_init_29 : decode cX6_init 29 = .ok (.aload_n 0, 1) := gd_X6_init_23.2.2.2.1
theorem dX6_init_30 : decode cX6_init 30 = .ok (.iconst 5, 1) := gd_X6_init_23.2.2.2.2.1
theorem dX6_init_31 : decode cX6_init 31 = .ok (.newarray .int, 2) := gd_X6_init_23.2.2.2.2.2.1
theorem dX6_init_33 : decode cX6_init 33 = .ok (.putfield 22, 3) := gd_X6_init_23.2.2.2.2.2.2.1
theorem dX6_init_36 : decode cX6_init 36 = .ok (.aload_n 0, 1) := gd_X6_init_23.2.2.2.2.2.2.2.1
theorem dX6_init_37 : decode cX6_init 37 = .ok (.iconst 0, 1) := gd_X6_init_23.2.2.2.2.2.2.2.2.1
theorem dX6_init_38 : decode cX6_init 38 = .ok (.putfield 25, 3) := gd_X6_init_23.2.2.2.2.2.2.2.2.2
theorem gd_X6_init_41 : decode cX6_init 41 = .ok (.aload_n 0, 1) ∧ decode cX6_init 42 = .ok (.iconst 0, 1) ∧ decode cX6_init 43 = .ok (.putfield 29, 3) ∧ decode cX6_init 46 = .ok (.aload_n 0, 1) ∧ decode cX6_init 47 = .ok (.iconst 0, 1) ∧ decode cX6_init 48 = .ok (.putfield 33, 3) ∧ decode cX6_init 51 = .ok (.aload_n 0, 1) ∧ decode cX6_init 52 = .ok (.iconst 0, 1) ∧ decode cX6_init 53 = .ok (.putfield 36, 3) ∧ decode cX6_init 56 = .ok (.aload_n 0, 1) := by decide +kernel
theorem dX6_init_41 : decode cX6_init 41 = .ok (.aload_n 0, 1) := gd_X6_init_41.1
theorem dX6_init_42 : decode cX6_init 42 = .ok (.iconst 0, 1) := gd_X6_init_41.2.1
theorem dX6_init_43 : decode cX6_init 43 = .ok (.putfield 29, 3) := gd_X6_init_41.2.2.1
theorem dX6_init_46 : decode cX6_init 46 = .ok (.aload_n 0, 1) := gd_X6_init_41.2.2.2.1
theorem dX6_init_47 : decode cX6_init 47 = .ok (.iconst 0, 1) := gd_X6_init_41.2.2.2.2.1
theorem dX6_init_48 : decode cX6_init 48 = .ok (.putfield 33, 3) := gd_X6_init_41.2.2.2.2.2.1
theorem dX6_init_51 : decode cX6_init 51 = .ok (.aload_n 0, 1) := gd_X6_init_41.2.2.2.2.2.2.1
theorem dX6_init_52 : decode cX6_init 52 = .ok (.iconst 0, 1) := gd_X6_init_41.2.2.2.2.2.2.2.1
theorem dX6_init_53 : decode cX6_init 53 = .ok (.putfield 36, 3) := gd_X6_init_41.2.2.2.2.2.2.2.2.1
theorem dX6_init_56 : decode cX6_init 56 = .ok (.aload_n 0, 1) := gd_X6_init_41.2.2.2.2.2.2.2.2.2
theorem gd_X6_init_57 : decode cX6_init 57 = .ok (.iconst 1, 1) ∧ decode cX6_init 58 = .ok (.putfield 39, 3) ∧ decode cX6_init 61 = .ok (.return_, 1) ∧ decode cX6_begin 0 = .ok (.aload_n 0, 1) ∧ decode cX6_begin 1 = .ok (.getfield 22, 3) ∧ decode cX6_begin 4 = .ok (.iconst 0, 1) ∧ decode cX6_begin 5 = .ok (.invokestatic 42, 3) ∧ decode cX6_begin 8 = .ok (.aload_n 0, 1) ∧ decode cX6_begin 9 = .ok (.iconst 0, 1) ∧ decode cX6_begin 10 = .ok (.putfield 33, 3) := by decide +kernel
theorem dX6_init_57 : decode cX6_init 57 = .ok (.iconst 1, 1) := gd_X6_init_57.1
theorem dX6_init_58 : decode cX6_init 58 = .ok (.putfield 39, 3) := gd_X6_init_57.2.1
theorem dX6_init_61 : decode cX6_init 61 = .ok (.return_, 1) := gd_X6_init_57.2.2.1
theorem dX6_begin_0 : decode cX6_begin 0 = .ok (.aload_n 0, 1) := gd_X6_init_57.2.2.2.1
theorem dX6_begin_1 : decode cX6_begin 1 = .ok (.getfield 22, 3) := gd_X6_init_57.2.2.2.2.1
theorem dX6_begin_4 : decode cX6_begin 4 = .ok (.iconst 0, 1) := gd_X6_init_57.2.2.2.2.2.1
theorem dX6_begin_5 : decode cX6_begin 5 = .ok (.invokestatic 42, 3) := gd_X6_init_57.2.2.2.2.2.2.1
theorem dX6_begin_8 : decode cX6_begin 8 = .ok (.aload_n 0, 1) := gd_X6_init_57.2.2.2.2.2.2.2.1
theorem dX6_begin_9 : decode cX6_begin 9 = .ok (.iconst 0, 1) := gd_X6_init_57.2.2.2.2.2.2.2.2.1
theorem dX6_begin_10 : decode cX6_begin 10 = .ok (.putfield 33, 3) := gd_X6_init_57.2.2.2.2.2.2.2.2.2
theorem gd_X6_begin_13 : decode cX6_begin 13 = .ok (.aload_n 0, 1) ∧ decode cX6_begin 14 = .ok (.iconst 0, 1) ∧ decode cX6_begin 15 = .ok (.putfield 36, 3) ∧ decode cX6_begin 18 = .ok (.aload_n 0, 1) ∧ decode cX6_begin 19 = .ok (.iconst 1, 1) ∧ decode cX6_begin 20 = .ok (.putfield 39, 3) ∧ decode cX6_begin 23 = .ok (.return_, 1) ∧ decode cX6_finish 0 = .ok (.aload_n 0, 1) ∧ decode cX6_finish 1 = .ok (.aload_n 1, 1) ∧ decode cX6_finish 2 = .ok (.aload_n 0, 1) := by decide +kernel
theorem dX6_begin_13 : decode cX6_begin 13 = .ok (.aload_n 0, 1) := gd_X6_begin_13.1
theorem dX6_begin_14 : decode cX6_begin 14 = .ok (.iconst 0, 1) := gd_X6_begin_13.2.1
theorem dX6_begin_15 : decode cX6_begin 15 = .ok (.putfield 36, 3) := gd_X6_begin_13.2.2.1
theorem dX6_begin_18 : decode cX6_begin 18 = .ok (.aload_n 0, 1) := gd_X6_begin_13.2.2.2.1
theorem dX6_begin_19 : decode cX6_begin 19 = .ok (.iconst 1, 1) := gd_X6_begin_13.2.2.2.2.1
theorem dX6_begin_20 : decode cX6_begin 20 = .ok (.putfield 39, 3) := gd_X6_begin_13.2.2.2.2.2.1
theorem dX6_begin_23 : decode cX6_begin 23 = .ok (.return_, 1) := gd_X6_begin_13.2.2.2.2.2.2.1
theorem dX6_finish_0 : decode cX6_finish 0 = .ok (.aload_n 0, 1) := gd_X6_begin_13.2.2.2.2.2.2.2.1
theorem dX6_finish_1 : decode cX6_finish 1 = .ok (.aload_n 1, 1) := gd_X6_begin_13.2.2.2.2.2.2.2.2.1
theorem dX6_finish_2 : decode cX6_finish 2 = .ok (.aload_n 0, 1) := gd_X6_begin_13.2.2.2.2.2.2.2.2.2
theorem gd_X6_finish_3 : decode cX6_finish 3 = .ok (.getfield 36, 3) ∧ decode cX6_finish 6 = .ok (.iload_n 2, 1) ∧ decode cX6_finish 7 = .ok (.aload_n 0, 1) ∧ decode cX6_finish 8 = .ok (.getfield 36, 3) ∧ decode cX6_finish 11 = .ok (.isub, 1) ∧ decode cX6_finish 12 = .ok (.invokevirtual 74, 3) ∧ decode cX6_finish 15 = .ok (.aload_n 0, 1) ∧ decode cX6_finish 16 = .ok (.getfield 39, 3) ∧ decode cX6_finish 19 = .ok (.ifCond .ne 5, 3) ∧ decode cX6_finish 24 = .ok (.aload_n 0, 1) := by decide +kernel
theorem dX6_finish_3 : decode cX6_finish 3 = .ok (.getfield 36, 3) := gd_X6_finish_3.1
theorem dX6_finish_6 : decode cX6_finish 6 = .ok (.iload_n 2, 1) := gd_X6_finish_3.2.1
theorem dX6_finish_7 : decode cX6_finish 7 = .ok (.aload_n 0, 1) := gd_X6_finish_3.2.2.1
theorem dX6_finish_8 : decode cX6_finish 8 = .ok (.getfield 36, 3) := gd_X6_finish_3.2.2.2.1
theorem dX6_finish_11 : decode cX6_finish 11 = .ok (.isub, 1) := gd_X6_finish_3.2.2.2.2.1
theorem dX6_finish_12 : decode cX6_finish 12 = .ok (.invokevirtual 74, 3) := gd_X6_finish_3.2.2.2.2.2.1
theorem dX6_finish_15 : decode cX6_finish 15 = .ok (.aload_n 0, 1) := gd_X6_finish_3.2.2.2.2.2.2.1
theorem dX6_finish_16 : decode cX6_finish 16 = .ok (.getfield 39, 3) := gd_X6_finish_3.2.2.2.2.2.2.2.1
theorem dX6_finish_19 : decode cX6_finish 19 = .ok (.ifCond .ne 5, 3) := gd_X6_finish_3.2.2.2.2.2.2.2.2.1
theorem dX6_finish_24 : decode cX6_finish 24 = .ok (.aload_n 0, 1) := gd_X6_finish_3.2.2.2.2.2.2.2.2.2
theorem gd_X6_finish_25 : decode cX6_finish 25 = .ok (.getfield 9, 3) ∧ decode cX6_finish 28 = .ok (.astore_n 3, 1) ∧ decode cX6_finish 29 = .ok (.aload_n 0, 1) ∧ decode cX6_finish 30 = .ok (.aload_n 0, 1) ∧ decode cX6_finish 31 = .ok (.getfield 15, 3) ∧ decode cX6_finish 34 = .ok (.putfield 9, 3) ∧ decode cX6_finish 37 = .ok (.aload_n 0, 1) ∧ decode cX6_finish 38 = .ok (.aload_n 3, 1) ∧ decode cX6_finish 39 = .ok (.putfield 15, 3) ∧ decode cX6_finish 42 = .ok (.aload_n 0, 1) := by decide +kernel
theorem dX6_finish_25 : decode cX6_finish 25 = .ok (.getfield 9, 3) := gd_X6_finish_25.1
theorem dX6_finish_28 : decode cX6_finish 28 = .ok (.astore_n 3, 1) := gd_X6_finish_25.2.1
theorem dX6_finish_29 : decode cX6_finish 29 = .ok (.aload_n 0, 1) := gd_X6_finish_25.2.2.1
theorem dX6_finish_30 : decode cX6_finish 30 = .ok (.aload_n 0, 1) := gd_X6_finish_25.2.2.2.1
theorem dX6_finish_31 : decode cX6_finish 31 = .ok (.getfield 15, 3) := gd_X6_finish_25.2.2.2.2.1
theorem dX6_finish_34 : decode cX6_finish 34 = .ok (.putfield 9, 3) := gd_X6_finish_25.2.2.2.2.2.1
theorem dX6_finish_37 : decode cX6_finish 37 = .ok (.aload_n 0, 1) := gd_X6_finish_25.2.2.2.2.2.2.1
theorem dX6_finish_38 : decode cX6_finish 38 = .ok (.aload_n 3, 1) := gd_X6_finish_25.2.2.2.2.2.2.2.1
theorem dX6_finish_39 : decode cX6_finish 39 = .ok (.putfield 15, 3) := gd_X6_finish_25.2.2.2.2.2.2.2.2.1
theorem dX6_finish_42 : decode cX6_finish 42 = .ok (.aload_n 0, 1) := gd_X6_finish_25.2.2.2.2.2.2.2.2.2
theorem gd_X6_finish_43 : decode cX6_finish 43 = .ok (.getfield 18, 3) ∧ decode cX6_finish 46 = .ok (.astore 4, 2) ∧ decode cX6_finish 48 = .ok (.aload_n 0, 1) ∧ decode cX6_finish 49 = .ok (.aload_n 0, 1) ∧ decode cX6_finish 50 = .ok (.getfield 22, 3) ∧ decode cX6_finish 53 = .ok (.putfield 18, 3) ∧ decode cX6_finish 56 = .ok (.aload_n 0, 1) ∧ decode cX6_finish 57 = .ok (.aload 4, 2) ∧ decode cX6_finish 59 = .ok (.putfield 22, 3) ∧ decode cX6_finish 62 = .ok (.aload_n 0, 1) := by decide +kernel
theorem dX6_finish_43 : decode cX6_finish 43 = .ok (.getfield 18, 3) := gd_X6_finish_43.1
theorem dX6_finish_46 : decode cX6_finish 46 = .ok (.astore 4, 2) := gd_X6_finish_43.2.1
theorem dX6_finish_48 : decode cX6_finish 48 = .ok (.aload_n 0, 1) := gd_X6_finish_43.2.2.1
theorem dX6_finish_49 : decode cX6_finish 49 = .ok (.aload_n 0, 1) := gd_X6_finish_43.2.2.2.1
theorem dX6_finish_50 : decode cX6_finish 50 = .ok (.getfield 22, 3) := gd_X6_finish_43.2.2.2.2.1
theorem dX6_finish_53 : decode cX6_finish 53 = .ok (.putfield 18, 3) := gd_X6_finish_43.2.2.2.2.2.1
theorem dX6_finish_56 : decode cX6_finish 56 = .ok (.aload_n 0, 1) := gd_X6_finish_43.2.2.2.2.2.2.1
theorem dX6_finish_57 : decode cX6_finish 57 = .ok (.aload 4, 2) := gd_X6_finish_43.2.2.2.2.2.2.2.1
theorem dX6_finish_59 : decode cX6_finish 59 = .ok (.putfield 22, 3) := gd_X6_finish_43.2.2.2.2.2.2.2.2.1
theorem dX6_finish_62 : decode cX6_finish 62 = .ok (.aload_n 0, 1) := gd_X6_finish_43.2.2.2.2.2.2.2.2.2
