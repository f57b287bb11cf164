theorem gd_X0_formsAt_0 : decode cX0_formsAt 0 = .ok (.aload_n 0, 1) ∧ decode cX0_formsAt 1 = .ok (.getfield 20, 3) ∧ decode cX0_formsAt 4 = .ok (.iload_n 1, 1) ∧ decode cX0_formsAt 5 = .ok (.bipush 100, 2) ∧ decode cX0_formsAt 7 = .ok (.imul, 1) ∧ decode cX0_formsAt 8 = .ok (.iload_n 2, 1) ∧ decode cX0_formsAt 9 = .ok (.iadd, 1) ∧ decode cX0_formsAt 10 = .ok (.aaload, 1) ∧ decode cX0_formsAt 11 = .ok (.astore_n 3, 1) ∧ decode cX0_formsAt 12 = .ok (.aload_n 3, 1) := by decide +kernel
theorem dX0_formsAt_0 : decode cX0_formsAt 0 = .ok (.aload_n 0, 1) := gd_X0_formsAt_0.1
theorem dX0_formsAt_1 : decode cX0_formsAt 1 = .ok (.getfield 20, 3) := gd_X0_formsAt_0.2.1
theorem dX0_formsAt_4 : decode cX0_formsAt 4 = .ok (.iload_n 1, 1) := gd_X0_formsAt_0.2.2.1
theorem dX0_formsAt_5 : decode cX0_formsAt 5 = .ok (.bipush 100, 2) := gd_X0_formsAt_0.2.2.2.1
theorem dX0_formsAt_7 : decode cX0_formsAt 7 = .ok (.imul, 1) := gd_X0_formsAt_0.2.2.2.2.1
theorem dX0_formsAt_8 : decode cX0_formsAt 8 = .ok (.iload_n 2, 1) := gd_X0_formsAt_0.2.2.2.2.2.1
theorem dX0_formsAt_9 : decode cX0_formsAt 9 = .ok (.iadd, 1) := gd_X0_formsAt_0.2.2.2.2.2.2.1
theorem dX0_formsAt_10 : decode cX0_formsAt 10 = .ok (.aaload, 1) := gd_X0_formsAt_0.2.2.2.2.2.2.2.1
theorem dX0_formsAt_11 : decode cX0_formsAt 11 = .ok (.astore_n 3, 1) := gd_X0_formsAt_0.2.2.2.2.2.2.2.2.1
theorem dX0_formsAt_12 : decode cX0_formsAt 12 = .ok (.aload_n 3, 1) := gd_X0_formsAt_0.2.2.2.2.2.2.2.2.2
theorem gd_X0_formsAt_13 : decode cX0_formsAt 13 = .ok (.ifnonnull 10, 3) ∧ decode cX0_formsAt 16 = .ok (.aload_n 0, 1) ∧ decode cX0_formsAt 17 = .ok (.getfield 35, 3) ∧ decode cX0_formsAt 20 = .ok (.goto 4, 3) ∧ decode cX0_formsAt 23 = .ok (.aload_n 3, 1) ∧ decode cX0_formsAt 24 = .ok (.areturn, 1) ∧ decode cX7_isWord 5 = .ok (.iload_n 1, 1) ∧ decode cX7_isWord 6 = .ok (.bipush 24, 2) ∧ decode cX7_isWord 8 = .ok (.if_icmp .le 5, 3) ∧ decode cX7_isWord 13 = .ok (.iconst 0, 1) := by decide +kernel
theorem dX0_formsAt_13 : decode cX0_formsAt 13 = .ok (.ifnonnull 10, 3) := gd_X0_formsAt_13.1
theorem dX0_formsAt_16 : decode cX0_formsAt 16 = .ok (.aload_n 0, 1) := gd_X0_formsAt_13.2.1
theorem dX0_formsAt_17 : decode cX0_formsAt 17 = .ok (.getfield 35, 3) := gd_X0_formsAt_13.2.2.1
theorem dX0_formsAt_20 : decode cX0_formsAt 20 = .ok (.goto 4, 3) := gd_X0_formsAt_13.2.2.2.1
theorem dX0_formsAt_23 : decode cX0_formsAt 23 = .ok (.aload_n 3, 1) := gd_X0_formsAt_13.2.2.2.2.1
theorem dX0_formsAt_24 : decode cX0_formsAt 24 = .ok (.areturn, 1) := gd_X0_formsAt_13.2.2.2.2.2.1
theorem dX7_isWord_5 : decode cX7_isWord 5 = .ok (.iload_n 1, 1) := gd_X0_formsAt_13.2.2.2.2.2.2.1
theorem dX7_isWord_6 : decode cX7_isWord 6 = .ok (.bipush 24, 2) := gd_X0_formsAt_13.2.2.2.2.2.2.2.1
theorem dX7_isWord_8 : decode cX7_isWord 8 = .ok (.if_icmp .le 5, 3) := gd_X0_formsAt_13.2.2.2.2.2.2.2.2.1
theorem dX7_isWord_13 : decode cX7_isWord 13 = .ok (.iconst 0, 1) := gd_X0_formsAt_13.2.2.2.2.2.2.2.2.2
theorem gd_X7_isWord_14 : decode cX7_isWord 14 = .ok (.istore_n 2, 1) ∧ decode cX7_isWord 15 = .ok (.iload_n 2, 1) ∧ decode cX7_isWord 16 = .ok (.iload_n 1, 1) ∧ decode cX7_isWord 17 = .ok (.if_icmp .ge 23, 3) ∧ decode cX7_isWord 20 = .ok (.aload_n 0, 1) ∧ decode cX7_isWord 21 = .ok (.getfield 9, 3) ∧ decode cX7_isWord 24 = .ok (.iload_n 2, 1) ∧ decode cX7_isWord 25 = .ok (.baload, 1) ∧ decode cX7_isWord 26 = .ok (.invokestatic 19, 3) ∧ decode cX7_isWord 29 = .ok (.ifCond .ne 5, 3) := by decide +kernel
theorem dX7_isWord_14 : decode cX7_isWord 14 = .ok (.istore_n 2, 1) := gd_X7_isWord_14.1
theorem dX7_isWord_15 : decode cX7_isWord 15 = .ok (.iload_n 2, 1) := gd_X7_isWord_14.2.1
theorem dX7_isWord_16 : decode cX7_isWord 16 = .ok (.iload_n 1, 1) := gd_X7_isWord_14.2.2.1
theorem dX7_isWord_17 : decode cX7_isWord 17 = .ok (.if_icmp .ge 23, 3) := gd_X7_isWord_14.2.2.2.1
theorem dX7_isWord_20 : decode cX7_isWord 20 = .ok (.aload_n 0, 1) := gd_X7_isWord_14.2.2.2.2.1
theorem dX7_isWord_21 : decode cX7_isWord 21 = .ok (.getfield 9, 3) := gd_X7_isWord_14.2.2.2.2.2.1
theorem dX7_isWord_24 : decode cX7_isWord 24 = .ok (.iload_n 2, 1) := gd_X7_isWord_14.2.2.2.2.2.2.1
theorem dX7_isWord_25 : decode cX7_isWord 25 = .ok (.baload, 1) := gd_X7_isWord_14.2.2.2.2.2.2.2.1
theorem dX7_isWord_26 : decode cX7_isWord 26 = .ok (.invokestatic 19, 3) := gd_X7_isWord_14.2.2.2.2.2.2.2.2.1
theorem dX7_isWord_29 : decode cX7_isWord 29 = .ok (.ifCond .ne 5, 3) := gd_X7_isWord_14.2.2.2.2.2.2.2.2.2
theorem gd_X7_isWord_32 : decode cX7_isWord 32 = .ok (.iconst 0, 1) ∧ decode cX7_isWord 33 = .ok (.ireturn, 1) ∧ decode cX7_isWord 34 = .ok (.iinc 2 1, 3) ∧ decode cX7_isWord 37 = .ok (.goto (-22), 3) ∧ decode cX7_isWord 40 = .ok (.iconst 1, 1) ∧ decode cX7_isWord 41 = .ok (.ireturn, 1) ∧ decode cX7_hasZero 9 = .ok (.iconst 1, 1) ∧ decode cX7_hasZero 10 = .ok (.goto 4, 3) ∧ decode cX7_occurrences 11 = .ok (.iload 4, 2) ∧ decode cX7_occurrences 13 = .ok (.sipush 2000, 3) := by decide +kernel
theorem dX7_isWord_32 : decode cX7_isWord 32 = .ok (.iconst 0, 1) := gd_X7_isWord_32.1
theorem dX7_isWord_33 : decode cX7_isWord 33 = .ok (.ireturn, 1) := gd_X7_isWord_32.2.1
theorem dX7_isWord_34 : decode cX7_isWord 34 = .ok (.iinc 2 1, 3) := gd_X7_isWord_32.2.2.1
theorem dX7_isWord_37 : decode cX7_isWord 37 = .ok (.goto (-22), 3) := gd_X7_isWord_32.2.2.2.1
theorem dX7_isWord_40 : decode cX7_isWord 40 = .ok (.iconst 1, 1) := gd_X7_isWord_32.2.2.2.2.1
theorem dX7_isWord_41 : decode cX7_isWord 41 = .ok (.ireturn, 1) := gd_X7_isWord_32.2.2.2.2.2.1
theorem dX7_hasZero_9 : decode cX7_hasZero 9 = .ok (.iconst 1, 1) := gd_X7_isWord_32.2.2.2.2.2.2.1
theorem dX7_hasZero_10 : decode cX7_hasZero 10 = .ok (.goto 4, 3) := gd_X7_isWord_32.2.2.2.2.2.2.2.1
theorem dX7_occurrences_11 : decode cX7_occurrences 11 = .ok (.iload 4, 2) := gd_X7_isWord_32.2.2.2.2.2.2.2.2.1
theorem dX7_occurrences_13 : decode cX7_occurrences 13 = .ok (.sipush 2000, 3) := gd_X7_isWord_32.2.2.2.2.2.2.2.2.2
theorem gd_X7_occurrences_16 : decode cX7_occurrences 16 = .ok (.if_icmp .ge 23, 3) ∧ decode cX7_occurrences 19 = .ok (.aload_n 0, 1) ∧ decode cX7_occurrences 20 = .ok (.getfield 9, 3) ∧ decode cX7_occurrences 23 = .ok (.iload 4, 2) ∧ decode cX7_occurrences 25 = .ok (.baload, 1) ∧ decode cX7_occurrences 26 = .ok (.iload_n 1, 1) ∧ decode cX7_occurrences 27 = .ok (.if_icmp .ne 6, 3) ∧ decode cX7_occurrences 30 = .ok (.iinc 3 1, 3) ∧ decode cX7_occurrences 33 = .ok (.iinc 4 1, 3) ∧ decode cX7_occurrences 36 = .ok (.goto (-31), 3) := by decide +kernel
theorem dX7_occurrences_16 : decode cX7_occurrences 16 = .ok (.if_icmp .ge 23, 3) := gd_X7_occurrences_16.1
theorem dX7_occurrences_19 : decode cX7_occurrences 19 = .ok (.aload_n 0, 1) := gd_X7_occurrences_16.2.1
theorem dX7_occurrences_20 : decode cX7_occurrences 20 = .ok (.getfield 9, 3) := gd_X7_occurrences_16.2.2.1
theorem dX7_occurrences_23 : decode cX7_occurrences 23 = .ok (.iload 4, 2) := gd_X7_occurrences_16.2.2.2.1
theorem dX7_occurrences_25 : decode cX7_occurrences 25 = .ok (.baload, 1) := gd_X7_occurrences_16.2.2.2.2.1
theorem dX7_occurrences_26 : decode cX7_occurrences 26 = .ok (.iload_n 1, 1) := gd_X7_occurrences_16.2.2.2.2.2.1
theorem dX7_occurrences_27 : decode cX7_occurrences 27 = .ok (.if_icmp .ne 6, 3) := gd_X7_occurrences_16.2.2.2.2.2.2.1
theorem dX7_occurrences_30 : decode cX7_occurrences 30 = .ok (.iinc 3 1, 3) := gd_X7_occurrences_16.2.2.2.2.2.2.2.1
theorem dX7_occurrences_33 : decode cX7_occurrences 33 = .ok (.iinc 4 1, 3) := gd_X7_occurrences_16.2.2.2.2.2.2.2.2.1
theorem dX7_occurrences_36 : decode cX7_occurrences 36 = .ok (.goto (-31), 3) := gd_X7_occurrences_16.2.2.2.2.2.2.2.2.2
theorem gd_X10_isSmall_0 : decode cX10_isSmall 0 = .ok (.iload_n 0, 1) ∧ decode cX10_isSmall 1 = .ok (.bipush 97, 2) ∧ decode cX10_isSmall 3 = .ok (.if_icmp .lt 13, 3) ∧ decode cX10_isSmall 6 = .ok (.iload_n 0, 1) ∧ decode cX10_isSmall 7 = .ok (.bipush 122, 2) ∧ decode cX10_isSmall 9 = .ok (.if_icmp .gt 7, 3) ∧ decode cX10_isSmall 12 = .ok (.iconst 1, 1) ∧ decode cX10_isSmall 13 = .ok (.goto 4, 3) ∧ decode cX10_isSmall 16 = .ok (.iconst 0, 1) ∧ decode cX10_isSmall 17 = .ok (.ireturn, 1) := by decide +kernel
theorem dX10_isSmall_0 : decode cX10_isSmall 0 = .ok (.iload_n 0, 1) := gd_X10_isSmall_0.1
theorem dX10_isSmall_1 : decode cX10_isSmall 1 = .ok (.bipush 97, 2) := gd_X10_isSmall_0.2.1
theorem dX10_isSmall_3 : decode cX10_isSmall 3 = .ok (.if_icmp .lt 13, 3) := gd_X10_isSmall_0.2.2.1
theorem dX10_isSmall_6 : decode cX10_isSmall 6 = .ok (.iload_n 0, 1) := gd_X10_isSmall_0.2.2.2.1
theorem dX10_isSmall_7 : decode cX10_isSmall 7 = .ok (.bipush 122, 2) := gd_X10_isSmall_0.2.2.2.2.1
theorem dX10_isSmall_9 : decode cX10_isSmall 9 = .ok (.if_icmp .gt 7, 3) := gd_X10_isSmall_0.2.2.2.2.2.1
theorem dX10_isSmall_12 : decode cX10_isSmall 12 = .ok (.iconst 1, 1) := gd_X10_isSmall_0.2.2.2.2.2.2.1
theorem dX10_isSmall_13 : decode cX10_isSmall 13 = .ok (.goto 4, 3) := gd_X10_isSmall_0.2.2.2.2.2.2.2.1
theorem dX10_isSmall_16 : decode cX10_isSmall 16 = .ok (.iconst 0, 1) := gd_X10_isSmall_0.2.2.2.2.2.2.2.2.1
theorem dX10_isSmall_17 : decode cX10_isSmall 17 = .ok (.ireturn, 1) := gd_X10_isSmall_0.2.2.2.2.2.2.2.2.2
theorem gd_X10_isCapital_0 : decode cX10_isCapital 0 = .ok (.iload_n 0, 1) ∧ decode cX10_isCapital 1 = .ok (.bipush 65, 2) ∧ decode cX10_isCapital 3 = .ok (.if_icmp .lt 13, 3) ∧ decode cX10_isCapital 6 = .ok (.iload_n 0, 1) ∧ decode cX10_isCapital 7 = .ok (.bipush 90, 2) ∧ decode cX10_isCapital 9 = .ok (.if_icmp .gt 7, 3) ∧ decode cX10_isCapital 12 = .ok (.iconst 1, 1) ∧ decode cX10_isCapital 13 = .ok (.goto 4, 3) ∧ decode cX10_isCapital 16 = .ok (.iconst 0, 1) ∧ decode cX10_isCapital 17 = .ok (.ireturn, 1) := by decide +kernel
theorem dX10_isCapital_0 : decode cX10_isCapital 0 = .ok (.iload_n 0, 1) := gd_X10_isCapital_0.1
theorem dX10_isCapital_1 : decode cX10_isCapital 1 = .ok (.bipush 65, 2) := gd_X10_isCapital_0.2.1
theorem dX10_isCapital_3 : decode cX10_isCapital 3 = .ok (.if_icmp .lt 13, 3) := gd_X10_isCapital_0.2.2.1
theorem dX10_isCapital_6 : decode cX10_isCapital 6 = .ok (.iload_n 0, 1) := gd_X10_isCapital_0.2.2.2.1
theorem dX10_isCapital_7 : decode cX10_isCapital 7 = .ok (.bipush 90, 2) := gd_X10_isCapital_0.2.2.2.2.1
theorem dX10_isCapital_9 : decode cX10_isCapital 9 = .ok (.if_icmp .gt 7, 3) := gd_X10_isCapital_0.2.2.2.2.2.1
theorem dX10_isCapital_12 : decode cX10_isCapital 12 = .ok (.iconst 1, 1) := gd_X10_isCapital_0.2.2.2.2.2.2.1
theorem dX10_isCapital_13 : decode cX10_isCapital 13 = .ok (.goto 4, 3) := gd_X10_isCapital_0.2.2.2.2.2.2.2.1
theorem dX10_isCapital_16 : decode cX10_isCapital 16 = .ok (.iconst 0, 1) := gd_X10_isCapital_0.2.2.2.2.2.2.2.2.1
theorem dX10_isCapital_17 : decode cX10_isCapital 17 = .ok (.ireturn, 1) := gd_X10_isCapital_0.2.2.2.2.2.2.2.2.2
theorem gd_X10_same_0 : decode cX10_same 0 = .ok (.iload_n 1, 1) ∧ decode cX10_same 1 = .ok (.ifCond .lt 25, 3) ∧ decode cX10_same 4 = .ok (.iload_n 3, 1) ∧ decode cX10_same 5 = .ok (.ifCond .lt 21, 3) ∧ decode cX10_same 8 = .ok (.iload 4, 2) ∧ decode cX10_same 10 = .ok (.aload_n 0, 1) ∧ decode cX10_same 11 = .ok (.arraylength, 1) ∧ decode cX10_same 12 = .ok (.iload_n 1, 1) ∧ decode cX10_same 13 = .ok (.isub, 1) ∧ decode cX10_same 14 = .ok (.if_icmp .gt 12, 3) := by decide +kernel
theorem dX10_same_0 : decode cX10_same 0 = .ok (.iload_n 1, 1) := gd_X10_same_0.1
theorem dX10_same_1 : decode cX10_same 1 = .ok (.ifCond .lt 25, 3) := gd_X10_same_0.2.1
theorem dX10_same_4 : decode cX10_same 4 = .ok (.iload_n 3, 1) := gd_X10_same_0.2.2.1
theorem dX10_same_5 : decode cX10_same 5 = .ok (.ifCond .lt 21, 3) := gd_X10_same_0.2.2.2.1
theorem dX10_same_8 : decode cX10_same 8 = .ok (.iload 4, 2) := gd_X10_same_0.2.2.2.2.1
theorem dX10_same_10 : decode cX10_same 10 = .ok (.aload_n 0, 1) := gd_X10_same_0.2.2.2.2.2.1
theorem dX10_same_11 : decode cX10_same 11 = .ok (.arraylength, 1) := gd_X10_same_0.2.2.2.2.2.2.1
theorem dX10_same_12 : decode cX10_same 12 = .ok (.iload_n 1, 1) := gd_X10_same_0.2.2.2.2.2.2.2.1
theorem dX10_same_13 : decode cX10_same 13 = .ok (.isub, 1) := gd_X10_same_0.2.2.2.2.2.2.2.2.1
theorem dX10_same_14 : decode cX10_same 14 = .ok (.if_icmp .gt 12, 3) := gd_X10_same_0.2.2.2.2.2.2.2.2.2
theorem gd_X10_same_17 : decode cX10_same 17 = .ok (.iload 4, 2) ∧ decode cX10_same 19 = .ok (.aload_n 2, 1) ∧ decode cX10_same 20 = .ok (.arraylength, 1) ∧ decode cX10_same 21 = .ok (.iload_n 3, 1) ∧ decode cX10_same 22 = .ok (.isub, 1) ∧ decode cX10_same 23 = .ok (.if_icmp .le 5, 3) ∧ decode cX10_same 26 = .ok (.iconst 0, 1) ∧ decode cX10_same 27 = .ok (.ireturn, 1) ∧ decode cX10_same 28 = .ok (.iconst 0, 1) ∧ decode cX10_same 29 = .ok (.istore 5, 2) := by decide +kernel
theorem dX10_same_17 : decode cX10_same 17 = .ok (.iload 4, 2) := gd_X10_same_17.1
theorem dX10_same_19 : decode cX10_same 19 = .ok (.aload_n 2, 1) := gd_X10_same_17.2.1
theorem dX10_same_20 : decode cX10_same 20 = .ok (.arraylength, 1) := gd_X10_same_17.2.2.1
theorem dX10_same_21 : decode cX10_same 21 = .ok (.iload_n 3, 1) := gd_X10_same_17.2.2.2.1
theorem dX10_same_22 : decode cX10_same 22 = .ok (.isub, 1) := gd_X10_same_17.2.2.2.2.1
theorem dX10_same_23 : decode cX10_same 23 = .ok (.if_icmp .le 5, 3) := gd_X10_same_17.2.2.2.2.2.1
theorem dX10_same_26 : decode cX10_same 26 = .ok (.iconst 0, 1) := gd_X10_same_17.2.2.2.2.2.2.1
theorem dX10_same_27 : decode cX10_same 27 = .ok (.ireturn, 1) := gd_X10_same_17.2.2.2.2.2.2.2.1
theorem dX10_same_28 : decode cX10_same 28 = .ok (.iconst 0, 1) := gd_X10_same_17.2.2.2.2.2.2.2.2.1
theorem dX10_same_29 : decode cX10_same 29 = .ok (.istore 5, 2) := gd_X10_same_17.2.2.2.2.2.2.2.2.2
theorem gd_X10_same_31 : decode cX10_same 31 = .ok (.iload 5, 2) ∧ decode cX10_same 33 = .ok (.iload 4, 2) ∧ decode cX10_same 35 = .ok (.if_icmp .ge 26, 3) ∧ decode cX10_same 38 = .ok (.aload_n 0, 1) ∧ decode cX10_same 39 = .ok (.iload_n 1, 1) ∧ decode cX10_same 40 = .ok (.iload 5, 2) ∧ decode cX10_same 42 = .ok (.iadd, 1) ∧ decode cX10_same 43 = .ok (.baload, 1) ∧ decode cX10_same 44 = .ok (.aload_n 2, 1) ∧ decode cX10_same 45 = .ok (.iload_n 3, 1) := by decide +kernel
theorem dX10_same_31 : decode cX10_same 31 = .ok (.iload 5, 2) := gd_X10_same_31.1
theorem dX10_same_33 : decode cX10_same 33 = .ok (.iload 4, 2) := gd_X10_same_31.2.1
theorem dX10_same_35 : decode cX10_same 35 = .ok (.if_icmp .ge 26, 3) := gd_X10_same_31.2.2.1
theorem dX10_same_38 : decode cX10_same 38 = .ok (.aload_n 0, 1) := gd_X10_same_31.2.2.2.1
theorem dX10_same_39 : decode cX10_same 39 = .ok (.iload_n 1, 1) := gd_X10_same_31.2.2.2.2.1
theorem dX10_same_40 : decode cX10_same 40 = .ok (.iload 5, 2) := gd_X10_same_31.2.2.2.2.2.1
theorem dX10_same_42 : decode cX10_same 42 = .ok (.iadd, 1) := gd_X10_same_31.2.2.2.2.2.2.1
theorem dX10_same_43 : decode cX10_same 43 = .ok (.baload, 1) := gd_X10_same_31.2.2.2.2.2.2.2.1
theorem dX10_same_44 : decode cX10_same 44 = .ok (.aload_n 2, 1) := gd_X10_same_31.2.2.2.2.2.2.2.2.1
theorem dX10_same_45 : decode cX10_same 45 = .ok (.iload_n 3, 1) := gd_X10_same_31.2.2.2.2.2.2.2.2.2
theorem gd_X10_same_46 : decode cX10_same 46 = .ok (.iload 5, 2) ∧ decode cX10_same 48 = .ok (.iadd, 1) ∧ decode cX10_same 49 = .ok (.baload, 1) ∧ decode cX10_same 50 = .ok (.if_icmp .eq 5, 3) ∧ decode cX10_same 53 = .ok (.iconst 0, 1) ∧ decode cX10_same 54 = .ok (.ireturn, 1) ∧ decode cX10_same 55 = .ok (.iinc 5 1, 3) ∧ decode cX10_same 58 = .ok (.goto (-27), 3) ∧ decode cX10_same 61 = .ok (.iconst 1, 1) ∧ decode cX10_same 62 = .ok (.ireturn, 1) := by decide +kernel
theorem dX10_same_46 : decode cX10_same 46 = .ok (.iload 5, 2) := gd_X10_same_46.1
theorem dX10_same_48 : decode cX10_same 48 = .ok (.iadd, 1) := gd_X10_same_46.2.1
theorem dX10_same_49 : decode cX10_same 49 = .ok (.baload, 1) := gd_X10_same_46.2.2.1
theorem dX10_same_50 : decode cX10_same 50 = .ok (.if_icmp .eq 5, 3) := gd_X10_same_46.2.2.2.1
theorem dX10_same_53 : decode cX10_same 53 = .ok (.iconst 0, 1) := gd_X10_same_46.2.2.2.2.1
theorem dX10_same_54 : decode cX10_same 54 = .ok (.ireturn, 1) := gd_X10_same_46.2.2.2.2.2.1
theorem dX10_same_55 : decode cX10_same 55 = .ok (.iinc 5 1, 3) := gd_X10_same_46.2.2.2.2.2.2.1
theorem dX10_same_58 : decode cX10_same 58 = .ok (.goto (-27), 3) := gd_X10_same_46.2.2.2.2.2.2.2.1
theorem dX10_same_61 : decode cX10_same 61 = .ok (.iconst 1, 1) := gd_X10_same_46.2.2.2.2.2.2.2.2.1
theorem dX10_same_62 : decode cX10_same 62 = .ok (.ireturn, 1) := gd_X10_same_46.2.2.2.2.2.2.2.2.2
theorem gd_X10_isFull_0 : decode cX10_isFull 0 = .ok (.aload_n 0, 1) ∧ decode cX10_isFull 1 = .ok (.getfield 9, 3) ∧ decode cX10_isFull 4 = .ok (.aload_n 0, 1) ∧ decode cX10_isFull 5 = .ok (.getfield 22, 3) ∧ decode cX10_isFull 8 = .ok (.arraylength, 1) ∧ decode cX10_isFull 9 = .ok (.if_icmp .lt 7, 3) ∧ decode cX10_isFull 12 = .ok (.iconst 1, 1) ∧ decode cX10_isFull 13 = .ok (.goto 4, 3) ∧ decode cX10_isFull 16 = .ok (.iconst 0, 1) ∧ decode cX10_isFull 17 = .ok (.ireturn, 1) := by decide +kernel
theorem dX10_isFull_0 : decode cX10_isFull 0 = .ok (.aload_n 0, 1) := gd_X10_isFull_0.1
theorem dX10_isFull_1 : decode cX10_isFull 1 = .ok (.getfield 9, 3) := gd_X10_isFull_0.2.1
theorem dX10_isFull_4 : decode cX10_isFull 4 = .ok (.aload_n 0, 1) := gd_X10_isFull_0.2.2.1
theorem dX10_isFull_5 : decode cX10_isFull 5 = .ok (.getfield 22, 3) := gd_X10_isFull_0.2.2.2.1
theorem dX10_isFull_8 : decode cX10_isFull 8 = .ok (.arraylength, 1) := gd_X10_isFull_0.2.2.2.2.1
theorem dX10_isFull_9 : decode cX10_isFull 9 = .ok (.if_icmp .lt 7, 3) := gd_X10_isFull_0.2.2.2.2.2.1
theorem dX10_isFull_12 : decode cX10_isFull 12 = .ok (.iconst 1, 1) := gd_X10_isFull_0.2.2.2.2.2.2.1
theorem dX10_isFull_13 : decode cX10_isFull 13 = .ok (.goto 4, 3) := gd_X10_isFull_0.2.2.2.2.2.2.2.1
theorem dX10_isFull_16 : decode cX10_isFull 16 = .ok (.iconst 0, 1) := gd_X10_isFull_0.2.2.2.2.2.2.2.2.1
theorem dX10_isFull_17 : decode cX10_isFull 17 = .ok (.ireturn, 1) := gd_X10_isFull_0.2.2.2.2.2.2.2.2.2
theorem gd_X10_add_0 : decode cX10_add 0 = .ok (.aload_n 0, 1) ∧ decode cX10_add 1 = .ok (.invokevirtual 26, 3) ∧ decode cX10_add 4 = .ok (.ifCond .ne 27, 3) ∧ decode cX10_add 7 = .ok (.iload_n 3, 1) ∧ decode cX10_add 8 = .ok (.ifCond .lt 23, 3) ∧ decode cX10_add 11 = .ok (.iload_n 3, 1) ∧ decode cX10_add 12 = .ok (.aload_n 0, 1) ∧ decode cX10_add 13 = .ok (.getfield 15, 3) ∧ decode cX10_add 16 = .ok (.if_icmp .gt 15, 3) ∧ decode cX10_add 19 = .ok (.iload_n 2, 1) := by decide +kernel
theorem dX10_add_0 : decode cX10_add 0 = .ok (.aload_n 0, 1) := gd_X10_add_0.1
theorem dX10_add_1 : decode cX10_add 1 = .ok (.invokevirtual 26, 3) := gd_X10_add_0.2.1
theorem dX10_add_4 : decode cX10_add 4 = .ok (.ifCond .ne 27, 3) := gd_X10_add_0.2.2.1
theorem dX10_add_7 : decode cX10_add 7 = .ok (.iload_n 3, 1) := gd_X10_add_0.2.2.2.1
theorem dX10_add_8 : decode cX10_add 8 = .ok (.ifCond .lt 23, 3) := gd_X10_add_0.2.2.2.2.1
theorem dX10_add_11 : decode cX10_add 11 = .ok (.iload_n 3, 1) := gd_X10_add_0.2.2.2.2.2.1
theorem dX10_add_12 : decode cX10_add 12 = .ok (.aload_n 0, 1) := gd_X10_add_0.2.2.2.2.2.2.1
theorem dX10_add_13 : decode cX10_add 13 = .ok (.getfield 15, 3) := gd_X10_add_0.2.2.2.2.2.2.2.1
theorem dX10_add_16 : decode cX10_add 16 = .ok (.if_icmp .gt 15, 3) := gd_X10_add_0.2.2.2.2.2.2.2.2.1
theorem dX10_add_19 : decode cX10_add 19 = .ok (.iload_n 2, 1) := gd_X10_add_0.2.2.2.2.2.2.2.2.2
theorem gd_X10_add_20 : decode cX10_add 20 = .ok (.ifCond .lt 11, 3) ∧ decode cX10_add 23 = .ok (.iload_n 3, 1) ∧ decode cX10_add 24 = .ok (.aload_n 1, 1) ∧ decode cX10_add 25 = .ok (.arraylength, 1) ∧ decode cX10_add 26 = .ok (.iload_n 2, 1) ∧ decode cX10_add 27 = .ok (.isub, 1) ∧ decode cX10_add 28 = .ok (.if_icmp .le 4, 3) ∧ decode cX10_add 31 = .ok (.return_, 1) ∧ decode cX10_add 32 = .ok (.aload_n 1, 1) ∧ decode cX10_add 33 = .ok (.iload_n 2, 1) := by decide +kernel
theorem dX10_add_20 : decode cX10_add 20 = .ok (.ifCond .lt 11, 3) := gd_X10_add_20.1
theorem dX10_add_23 : decode cX10_add 23 = .ok (.iload_n 3, 1) := gd_X10_add_20.2.1
theorem dX10_add_24 : decode cX10_add 24 = .ok (.aload_n 1, 1) := gd_X10_add_20.2.2.1
theorem dX10_add_25 : decode cX10_add 25 = .ok (.arraylength, 1) := gd_X10_add_20.2.2.2.1
theorem dX10_add_26 : decode cX10_add 26 = .ok (.iload_n 2, 1) := gd_X10_add_20.2.2.2.2.1
theorem dX10_add_27 : decode cX10_add 27 = .ok (.isub, 1) := gd_X10_add_20.2.2.2.2.2.1
theorem dX10_add_28 : decode cX10_add 28 = .ok (.if_icmp .le 4, 3) := gd_X10_add_20.2.2.2.2.2.2.1
theorem dX10_add_31 : decode cX10_add 31 = .ok (.return_, 1) := gd_X10_add_20.2.2.2.2.2.2.2.1
theorem dX10_add_32 : decode cX10_add 32 = .ok (.aload_n 1, 1) := gd_X10_add_20.2.2.2.2.2.2.2.2.1
theorem dX10_add_33 : decode cX10_add 33 = .ok (.iload_n 2, 1) := gd_X10_add_20.2.2.2.2.2.2.2.2.2
theorem gd_X10_add_34 : decode cX10_add 34 = .ok (.aload_n 0, 1) ∧ decode cX10_add 35 = .ok (.getfield 18, 3) ∧ decode cX10_add 38 = .ok (.aload_n 0, 1) ∧ decode cX10_add 39 = .ok (.getfield 9, 3) ∧ decode cX10_add 42 = .ok (.aload_n 0, 1) ∧ decode cX10_add 43 = .ok (.getfield 15, 3) ∧ decode cX10_add 46 = .ok (.imul, 1) ∧ decode cX10_add 47 = .ok (.iload_n 3, 1) ∧ decode cX10_add 48 = .ok (.invokestatic 30, 3) ∧ decode cX10_add 51 = .ok (.aload_n 0, 1) := by decide +kernel
theorem dX10_add_34 : decode cX10_add 34 = .ok (.aload_n 0, 1) := gd_X10_add_34.1
theorem dX10_add_35 : decode cX10_add 35 = .ok (.getfield 18, 3) := gd_X10_add_34.2.1
theorem dX10_add_38 : decode cX10_add 38 = .ok (.aload_n 0, 1) := gd_X10_add_34.2.2.1
theorem dX10_add_39 : decode cX10_add 39 = .ok (.getfield 9, 3) := gd_X10_add_34.2.2.2.1
theorem dX10_add_42 : decode cX10_add 42 = .ok (.aload_n 0, 1) := gd_X10_add_34.2.2.2.2.1
theorem dX10_add_43 : decode cX10_add 43 = .ok (.getfield 15, 3) := gd_X10_add_34.2.2.2.2.2.1
theorem dX10_add_46 : decode cX10_add 46 = .ok (.imul, 1) := gd_X10_add_34.2.2.2.2.2.2.1
theorem dX10_add_47 : decode cX10_add 47 = .ok (.iload_n 3, 1) := gd_X10_add_34.2.2.2.2.2.2.2.1
theorem dX10_add_48 : decode cX10_add 48 = .ok (.invokestatic 30, 3) := gd_X10_add_34.2.2.2.2.2.2.2.2.1
theorem dX10_add_51 : decode cX10_add 51 = .ok (.aload_n 0, 1) := gd_X10_add_34.2.2.2.2.2.2.2.2.2
theorem gd_X10_add_52 : decode cX10_add 52 = .ok (.getfield 22, 3) ∧ decode cX10_add 55 = .ok (.aload_n 0, 1) ∧ decode cX10_add 56 = .ok (.getfield 9, 3) ∧ decode cX10_add 59 = .ok (.iload_n 3, 1) ∧ decode cX10_add 60 = .ok (.iastore, 1) ∧ decode cX10_add 61 = .ok (.aload_n 0, 1) ∧ decode cX10_add 62 = .ok (.dup, 1) ∧ decode cX10_add 63 = .ok (.getfield 9, 3) ∧ decode cX10_add 66 = .ok (.iconst 1, 1) ∧ decode cX10_add 67 = .ok (.iadd, 1) := by decide +kernel
theorem dX10_add_52 : decode cX10_add 52 = .ok (.getfield 22, 3) := gd_X10_add_52.1
theorem dX10_add_55 : decode cX10_add 55 = .ok (.aload_n 0, 1) := gd_X10_add_52.2.1
theorem dX10_add_56 : decode cX10_add 56 = .ok (.getfield 9, 3) := gd_X10_add_52.2.2.1
theorem dX10_add_59 : decode cX10_add 59 = .ok (.iload_n 3, 1) := gd_X10_add_52.2.2.2.1
theorem dX10_add_60 : decode cX10_add 60 = .ok (.iastore, 1) := gd_X10_add_52.2.2.2.2.1
theorem dX10_add_61 : decode cX10_add 61 = .ok (.aload_n 0, 1) := gd_X10_add_52.2.2.2.2.2.1
theorem dX10_add_62 : decode cX10_add 62 = .ok (.dup, 1) := gd_X10_add_52.2.2.2.2.2.2.1
theorem dX10_add_63 : decode cX10_add 63 = .ok (.getfield 9, 3) := gd_X10_add_52.2.2.2.2.2.2.2.1
theorem dX10_add_66 : decode cX10_add 66 = .ok (.iconst 1, 1) := gd_X10_add_52.2.2.2.2.2.2.2.2.1
theorem dX10_add_67 : decode cX10_add 67 = .ok (.iadd, 1) := gd_X10_add_52.2.2.2.2.2.2.2.2.2
theorem gd_X10_add_68 : decode cX10_add 68 = .ok (.putfield 9, 3) ∧ decode cX10_add 71 = .ok (.return_, 1) ∧ decode cX10_addForm 0 = .ok (.iload_n 3, 1) ∧ decode cX10_addForm 1 = .ok (.ifCond .le 21, 3) ∧ decode cX10_addForm 4 = .ok (.aload_n 0, 1) ∧ decode cX10_addForm 5 = .ok (.aload_n 1, 1) ∧ decode cX10_addForm 6 = .ok (.iload_n 2, 1) ∧ decode cX10_addForm 7 = .ok (.iload_n 3, 1) ∧ decode cX10_addForm 8 = .ok (.invokevirtual 36, 3) ∧ decode cX10_addForm 11 = .ok (.iconst (-1), 1) := by decide +kernel
theorem dX10_add_68 : decode cX10_add 68 = .ok (.putfield 9, 3) := gd_X10_add_68.1
theorem dX10_add_71 : decode cX10_add 71 = .ok (.return_, 1) := gd_X10_add_68.2.1
theorem dX10_addForm_0 : decode cX10_addForm 0 = .ok (.iload_n 3, 1) := gd_X10_add_68.2.2.1
theorem dX10_addForm_1 : decode cX10_addForm 1 = .ok (.ifCond .le 21, 3) := gd_X10_add_68.2.2.2.1
theorem dX10_addForm_4 : decode cX10_addForm 4 = .ok (.aload_n 0, 1) := gd_X10_add_68.2.2.2.2.1
theorem dX10_addForm_5 : decode cX10_addForm 5 = .ok (.aload_n 1, 1) := gd_X10_add_68.2.2.2.2.2.1
theorem dX10_addForm_6 : decode cX10_addForm 6 = .ok (.iload_n 2, 1) := gd_X10_add_68.2.2.2.2.2.2.1
theorem dX10_addForm_7 : decode cX10_addForm 7 = .ok (.iload_n 3, 1) := gd_X10_add_68.2.2.2.2.2.2.2.1
theorem dX10_addForm_8 : decode cX10_addForm 8 = .ok (.invokevirtual 36, 3) := gd_X10_add_68.2.2.2.2.2.2.2.2.1
theorem dX10_addForm_11 : decode cX10_addForm 11 = .ok (.iconst (-1), 1) := gd_X10_add_68.2.2.2.2.2.2.2.2.2
theorem gd_X10_addForm_12 : decode cX10_addForm 12 = .ok (.if_icmp .ne 10, 3) ∧ decode cX10_addForm 15 = .ok (.aload_n 0, 1) ∧ decode cX10_addForm 16 = .ok (.aload_n 1, 1) ∧ decode cX10_addForm 17 = .ok (.iload_n 2, 1) ∧ decode cX10_addForm 18 = .ok (.iload_n 3, 1) ∧ decode cX10_addForm 19 = .ok (.invokevirtual 40, 3) ∧ decode cX10_addForm 22 = .ok (.return_, 1) ∧ decode cX10_copy 0 = .ok (.aload_n 0, 1) ∧ decode cX10_copy 1 = .ok (.iconst 0, 1) ∧ decode cX10_copy 2 = .ok (.putfield 9, 3) := by decide +kernel
theorem dX10_addForm_12 : decode cX10_addForm 12 = .ok (.if_icmp .ne 10, 3) := gd_X10_addForm_12.1
theorem dX10_addForm_15 : decode cX10_addForm 15 = .ok (.aload_n 0, 1) := gd_X10_addForm_12.2.1
theorem dX10_addForm_16 : decode cX10_addForm 16 = .ok (.aload_n 1, 1) := gd_X10_addForm_12.2.2.1
theorem dX10_addForm_17 : decode cX10_addForm 17 = .ok (.iload_n 2, 1) := gd_X10_addForm_12.2.2.2.1
theorem dX10_addForm_18 : decode cX10_addForm 18 = .ok (.iload_n 3, 1) := gd_X10_addForm_12.2.2.2.2.1
theorem dX10_addForm_19 : decode cX10_addForm 19 = .ok (.invokevirtual 40, 3) := gd_X10_addForm_12.2.2.2.2.2.1
theorem dX10_addForm_22 : decode cX10_addForm 22 = .ok (.return_, 1) := gd_X10_addForm_12.2.2.2.2.2.2.1
theorem dX10_copy_0 : decode cX10_copy 0 = .ok (.aload_n 0, 1) := gd_X10_addForm_12.2.2.2.2.2.2.2.1
theorem dX10_copy_1 : decode cX10_copy 1 = .ok (.iconst 0, 1) := gd_X10_addForm_12.2.2.2.2.2.2.2.2.1
theorem dX10_copy_2 : decode cX10_copy 2 = .ok (.putfield 9, 3) := gd_X10_addForm_12.2.2.2.2.2.2.2.2.2
theorem gd_X10_copy_5 : decode cX10_copy 5 = .ok (.iconst 0, 1) ∧ decode cX10_copy 6 = .ok (.istore_n 2, 1) ∧ decode cX10_copy 7 = .ok (.iload_n 2, 1) ∧ decode cX10_copy 8 = .ok (.aload_n 1, 1) ∧ decode cX10_copy 9 = .ok (.getfield 9, 3) ∧ decode cX10_copy 12 = .ok (.if_icmp .ge 29, 3) ∧ decode cX10_copy 15 = .ok (.aload_n 0, 1) ∧ decode cX10_copy 16 = .ok (.aload_n 1, 1) ∧ decode cX10_copy 17 = .ok (.getfield 18, 3) ∧ decode cX10_copy 20 = .ok (.iload_n 2, 1) := by decide +kernel
theorem dX10_copy_5 : decode cX10_copy 5 = .ok (.iconst 0, 1) := gd_X10_copy_5.1
theorem dX10_copy_6 : decode cX10_copy 6 = .ok (.istore_n 2, 1) := gd_X10_copy_5.2.1
theorem dX10_copy_7 : decode cX10_copy 7 = .ok (.iload_n 2, 1) := gd_X10_copy_5.2.2.1
theorem dX10_copy_8 : decode cX10_copy 8 = .ok (.aload_n 1, 1) := gd_X10_copy_5.2.2.2.1
theorem dX10_copy_9 : decode cX10_copy 9 = .ok (.getfield 9, 3) := gd_X10_copy_5.2.2.2.2.1
theorem dX10_copy_12 : decode cX10_copy 12 = .ok (.if_icmp .ge 29, 3) := gd_X10_copy_5.2.2.2.2.2.1
theorem dX10_copy_15 : decode cX10_copy 15 = .ok (.aload_n 0, 1) := gd_X10_copy_5.2.2.2.2.2.2.1
theorem dX10_copy_16 : decode cX10_copy 16 = .ok (.aload_n 1, 1) := gd_X10_copy_5.2.2.2.2.2.2.2.1
theorem dX10_copy_17 : decode cX10_copy 17 = .ok (.getfield 18, 3) := gd_X10_copy_5.2.2.2.2.2.2.2.2.1
theorem dX10_copy_20 : decode cX10_copy 20 = .ok (.iload_n 2, 1) := gd_X10_copy_5.2.2.2.2.2.2.2.2.2
theorem gd_X10_copy_21 : decode cX10_copy 21 = .ok (.aload_n 1, 1) ∧ decode cX10_copy 22 = .ok (.getfield 15, 3) ∧ decode cX10_copy 25 = .ok (.imul, 1) ∧ decode cX10_copy 26 = .ok (.aload_n 1, 1) ∧ decode cX10_copy 27 = .ok (.getfield 22, 3) ∧ decode cX10_copy 30 = .ok (.iload_n 2, 1) ∧ decode cX10_copy 31 = .ok (.iaload, 1) ∧ decode cX10_copy 32 = .ok (.invokevirtual 40, 3) ∧ decode cX10_copy 35 = .ok (.iinc 2 1, 3) ∧ decode cX10_copy 38 = .ok (.goto (-31), 3) := by decide +kernel
theorem dX10_copy_21 : decode cX10_copy 21 = .ok (.aload_n 1, 1) := gd_X10_copy_21.1
theorem dX10_copy_22 : decode cX10_copy 22 = .ok (.getfield 15, 3) := gd_X10_copy_21.2.1
theorem dX10_copy_25 : decode cX10_copy 25 = .ok (.imul, 1) := gd_X10_copy_21.2.2.1
theorem dX10_copy_26 : decode cX10_copy 26 = .ok (.aload_n 1, 1) := gd_X10_copy_21.2.2.2.1
theorem dX10_copy_27 : decode cX10_copy 27 = .ok (.getfield 22, 3) := gd_X10_copy_21.2.2.2.2.1
theorem dX10_copy_30 : decode cX10_copy 30 = .ok (.iload_n 2, 1) := gd_X10_copy_21.2.2.2.2.2.1
theorem dX10_copy_31 : decode cX10_copy 31 = .ok (.iaload, 1) := gd_X10_copy_21.2.2.2.2.2.2.1
theorem dX10_copy_32 : decode cX10_copy 32 = .ok (.invokevirtual 40, 3) := gd_X10_copy_21.2.2.2.2.2.2.2.1
theorem dX10_copy_35 : decode cX10_copy 35 = .ok (.iinc 2 1, 3) := gd_X10_copy_21.2.2.2.2.2.2.2.2.1
theorem dX10_copy_38 : decode cX10_copy 38 = .ok (.goto (-31), 3) := gd_X10_copy_21.2.2.2.2.2.2.2.2.2
theorem gd_X10_copy_41 : decode cX10_copy 41 = .ok (.return_, 1) ∧ decode cX10_find 0 = .ok (.iconst 0, 1) ∧ decode cX10_find 1 = .ok (.istore 4, 2) ∧ decode cX10_find 3 = .ok (.iload 4, 2) ∧ decode cX10_find 5 = .ok (.aload_n 0, 1) ∧ decode cX10_find 6 = .ok (.getfield 9, 3) ∧ decode cX10_find 9 = .ok (.if_icmp .ge 43, 3) ∧ decode cX10_find 12 = .ok (.aload_n 0, 1) ∧ decode cX10_find 13 = .ok (.getfield 22, 3) ∧ decode cX10_find 16 = .ok (.iload 4, 2) := by decide +kernel
theorem dX10_copy_41 : decode cX10_copy 41 = .ok (.return_, 1) := gd_X10_copy_41.1
theorem dX10_find_0 : decode cX10_find 0 = .ok (.iconst 0, 1) := gd_X10_copy_41.2.1
theorem dX10_find_1 : decode cX10_find 1 = .ok (.istore 4, 2) := gd_X10_copy_41.2.2.1
theorem dX10_find_3 : decode cX10_find 3 = .ok (.iload 4, 2) := gd_X10_copy_41.2.2.2.1
theorem dX10_find_5 : decode cX10_find 5 = .ok (.aload_n 0, 1) := gd_X10_copy_41.2.2.2.2.1
theorem dX10_find_6 : decode cX10_find 6 = .ok (.getfield 9, 3) := gd_X10_copy_41.2.2.2.2.2.1
theorem dX10_find_9 : decode cX10_find 9 = .ok (.if_icmp .ge 43, 3) := gd_X10_copy_41.2.2.2.2.2.2.1
theorem dX10_find_12 : decode cX10_find 12 = .ok (.aload_n 0, 1) := gd_X10_copy_41.2.2.2.2.2.2.2.1
theorem dX10_find_13 : decode cX10_find 13 = .ok (.getfield 22, 3) := gd_X10_copy_41.2.2.2.2.2.2.2.2.1
theorem dX10_find_16 : decode cX10_find 16 = .ok (.iload 4, 2) := gd_X10_copy_41.2.2.2.2.2.2.2.2.2
theorem gd_X10_find_18 : decode cX10_find 18 = .ok (.iaload, 1) ∧ decode cX10_find 19 = .ok (.iload_n 3, 1) ∧ decode cX10_find 20 = .ok (.if_icmp .ne 26, 3) ∧ decode cX10_find 23 = .ok (.aload_n 0, 1) ∧ decode cX10_find 24 = .ok (.getfield 18, 3) ∧ decode cX10_find 27 = .ok (.iload 4, 2) ∧ decode cX10_find 29 = .ok (.aload_n 0, 1) ∧ decode cX10_find 30 = .ok (.getfield 15, 3) ∧ decode cX10_find 33 = .ok (.imul, 1) ∧ decode cX10_find 34 = .ok (.aload_n 1, 1) := by decide +kernel
theorem dX10_find_18 : decode cX10_find 18 = .ok (.iaload, 1) := gd_X10_find_18.1
theorem dX10_find_19 : decode cX10_find 19 = .ok (.iload_n 3, 1) := gd_X10_find_18.2.1
theorem dX10_find_20 : decode cX10_find 20 = .ok (.if_icmp .ne 26, 3) := gd_X10_find_18.2.2.1
theorem dX10_find_23 : decode cX10_find 23 = .ok (.aload_n 0, 1) := gd_X10_find_18.2.2.2.1
theorem dX10_find_24 : decode cX10_find 24 = .ok (.getfield 18, 3) := gd_X10_find_18.2.2.2.2.1
theorem dX10_find_27 : decode cX10_find 27 = .ok (.iload 4, 2) := gd_X10_find_18.2.2.2.2.2.1
theorem dX10_find_29 : decode cX10_find 29 = .ok (.aload_n 0, 1) := gd_X10_find_18.2.2.2.2.2.2.1
theorem dX10_find_30 : decode cX10_find 30 = .ok (.getfield 15, 3) := gd_X10_find_18.2.2.2.2.2.2.2.1
theorem dX10_find_33 : decode cX10_find 33 = .ok (.imul, 1) := gd_X10_find_18.2.2.2.2.2.2.2.2.1
theorem dX10_find_34 : decode cX10_find 34 = .ok (.aload_n 1, 1) := gd_X10_find_18.2.2.2.2.2.2.2.2.2
theorem gd_X10_find_35 : decode cX10_find 35 = .ok (.iload_n 2, 1) ∧ decode cX10_find 36 = .ok (.iload_n 3, 1) ∧ decode cX10_find 37 = .ok (.invokestatic 44, 3) ∧ decode cX10_find 40 = .ok (.ifCond .eq 6, 3) ∧ decode cX10_find 43 = .ok (.iload 4, 2) ∧ decode cX10_find 45 = .ok (.ireturn, 1) ∧ decode cX10_find 46 = .ok (.iinc 4 1, 3) ∧ decode cX10_find 49 = .ok (.goto (-46), 3) ∧ decode cX10_find 52 = .ok (.iconst (-1), 1) ∧ decode cX10_find 53 = .ok (.ireturn, 1) := by decide +kernel
theorem dX10_find_35 : decode cX10_find 35 = .ok (.iload_n 2, 1) := gd_X10_find_35.1
theorem dX10_find_36 : decode cX10_find 36 = .ok (.iload_n 3, 1) := gd_X10_find_35.2.1
theorem dX10_find_37 : decode cX10_find 37 = .ok (.invokestatic 44, 3) := gd_X10_find_35.2.2.1
theorem dX10_find_40 : decode cX10_find 40 = .ok (.ifCond .eq 6, 3) := gd_X10_find_35.2.2.2.1
theorem dX10_find_43 : decode cX10_find 43 = .ok (.iload 4, 2) := gd_X10_find_35.2.2.2.2.1
theorem dX10_find_45 : decode cX10_find 45 = .ok (.ireturn, 1) := gd_X10_find_35.2.2.2.2.2.1
theorem dX10_find_46 : decode cX10_find 46 = .ok (.iinc 4 1, 3) := gd_X10_find_35.2.2.2.2.2.2.1
theorem dX10_find_49 : decode cX10_find 49 = .ok (.goto (-46), 3) := gd_X10_find_35.2.2.2.2.2.2.2.1
theorem dX10_find_52 : decode cX10_find 52 = .ok (.iconst (-1), 1) := gd_X10_find_35.2.2.2.2.2.2.2.2.1
theorem dX10_find_53 : decode cX10_find 53 = .ok (.ireturn, 1) := gd_X10_find_35.2.2.2.2.2.2.2.2.2
theorem gd_X10_standsIn_0 : decode cX10_standsIn 0 = .ok (.aload_n 0, 1) ∧ decode cX10_standsIn 1 = .ok (.getfield 18, 3) ∧ decode cX10_standsIn 4 = .ok (.iload_n 1, 1) ∧ decode cX10_standsIn 5 = .ok (.aload_n 0, 1) ∧ decode cX10_standsIn 6 = .ok (.getfield 15, 3) ∧ decode cX10_standsIn 9 = .ok (.imul, 1) ∧ decode cX10_standsIn 10 = .ok (.aload_n 2, 1) ∧ decode cX10_standsIn 11 = .ok (.iload_n 3, 1) ∧ decode cX10_standsIn 12 = .ok (.aload_n 0, 1) ∧ decode cX10_standsIn 13 = .ok (.getfield 22, 3) := by decide +kernel
theorem dX10_standsIn_0 : decode cX10_standsIn 0 = .ok (.aload_n 0, 1) := gd_X10_standsIn_0.1
theorem dX10_standsIn_1 : decode cX10_standsIn 1 = .ok (.getfield 18, 3) := gd_X10_standsIn_0.2.1
theorem dX10_standsIn_4 : decode cX10_standsIn 4 = .ok (.iload_n 1, 1) := gd_X10_standsIn_0.2.2.1
theorem dX10_standsIn_5 : decode cX10_standsIn 5 = .ok (.aload_n 0, 1) := gd_X10_standsIn_0.2.2.2.1
theorem dX10_standsIn_6 : decode cX10_standsIn 6 = .ok (.getfield 15, 3) := gd_X10_standsIn_0.2.2.2.2.1
theorem dX10_standsIn_9 : decode cX10_standsIn 9 = .ok (.imul, 1) := gd_X10_standsIn_0.2.2.2.2.2.1
theorem dX10_standsIn_10 : decode cX10_standsIn 10 = .ok (.aload_n 2, 1) := gd_X10_standsIn_0.2.2.2.2.2.2.1
theorem dX10_standsIn_11 : decode cX10_standsIn 11 = .ok (.iload_n 3, 1) := gd_X10_standsIn_0.2.2.2.2.2.2.2.1
theorem dX10_standsIn_12 : decode cX10_standsIn 12 = .ok (.aload_n 0, 1) := gd_X10_standsIn_0.2.2.2.2.2.2.2.2.1
theorem dX10_standsIn_13 : decode cX10_standsIn 13 = .ok (.getfield 22, 3) := gd_X10_standsIn_0.2.2.2.2.2.2.2.2.2
theorem gd_X10_standsIn_16 : decode cX10_standsIn 16 = .ok (.iload_n 1, 1) ∧ decode cX10_standsIn 17 = .ok (.iaload, 1) ∧ decode cX10_standsIn 18 = .ok (.invokestatic 44, 3) ∧ decode cX10_standsIn 21 = .ok (.ireturn, 1) ∧ decode cX10_endsAlike 0 = .ok (.aload_n 0, 1) ∧ decode cX10_endsAlike 1 = .ok (.getfield 22, 3) ∧ decode cX10_endsAlike 4 = .ok (.iload_n 1, 1) ∧ decode cX10_endsAlike 5 = .ok (.iaload, 1) ∧ decode cX10_endsAlike 6 = .ok (.istore 4, 2) ∧ decode cX10_endsAlike 8 = .ok (.aload_n 2, 1) := by decide +kernel
theorem dX10_standsIn_16 : decode cX10_standsIn 16 = .ok (.iload_n 1, 1) := gd_X10_standsIn_16.1
theorem dX10_standsIn_17 : decode cX10_standsIn 17 = .ok (.iaload, 1) := gd_X10_standsIn_16.2.1
theorem dX10_standsIn_18 : decode cX10_standsIn 18 = .ok (.invokestatic 44, 3) := gd_X10_standsIn_16.2.2.1
theorem dX10_standsIn_21 : decode cX10_standsIn 21 = .ok (.ireturn, 1) := gd_X10_standsIn_16.2.2.2.1
theorem dX10_endsAlike_0 : decode cX10_endsAlike 0 = .ok (.aload_n 0, 1) := gd_X10_standsIn_16.2.2.2.2.1
theorem dX10_endsAlike_1 : decode cX10_endsAlike 1 = .ok (.getfield 22, 3) := gd_X10_standsIn_16.2.2.2.2.2.1
theorem dX10_endsAlike_4 : decode cX10_endsAlike 4 = .ok (.iload_n 1, 1) := gd_X10_standsIn_16.2.2.2.2.2.2.1
theorem dX10_endsAlike_5 : decode cX10_endsAlike 5 = .ok (.iaload, 1) := gd_X10_standsIn_16.2.2.2.2.2.2.2.1
theorem dX10_endsAlike_6 : decode cX10_endsAlike 6 = .ok (.istore 4, 2) := gd_X10_standsIn_16.2.2.2.2.2.2.2.2.1
theorem dX10_endsAlike_8 : decode cX10_endsAlike 8 = .ok (.aload_n 2, 1) := gd_X10_standsIn_16.2.2.2.2.2.2.2.2.2
theorem gd_X10_endsAlike_9 : decode cX10_endsAlike 9 = .ok (.getfield 22, 3) ∧ decode cX10_endsAlike 12 = .ok (.iload_n 3, 1) ∧ decode cX10_endsAlike 13 = .ok (.iaload, 1) ∧ decode cX10_endsAlike 14 = .ok (.istore 5, 2) ∧ decode cX10_endsAlike 16 = .ok (.iload 4, 2) ∧ decode cX10_endsAlike 18 = .ok (.iconst 3, 1) ∧ decode cX10_endsAlike 19 = .ok (.if_icmp .lt 9, 3) ∧ decode cX10_endsAlike 22 = .ok (.iload 5, 2) ∧ decode cX10_endsAlike 24 = .ok (.iconst 3, 1) ∧ decode cX10_endsAlike 25 = .ok (.if_icmp .ge 5, 3) := by decide +kernel
theorem dX10_endsAlike_9 : decode cX10_endsAlike 9 = .ok (.getfield 22, 3) := gd_X10_endsAlike_9.1
theorem dX10_endsAlike_12 : decode cX10_endsAlike 12 = .ok (.iload_n 3, 1) := gd_X10_endsAlike_9.2.1
theorem dX10_endsAlike_13 : decode cX10_endsAlike 13 = .ok (.iaload, 1) := gd_X10_endsAlike_9.2.2.1
theorem dX10_endsAlike_14 : decode cX10_endsAlike 14 = .ok (.istore 5, 2) := gd_X10_endsAlike_9.2.2.2.1
theorem dX10_endsAlike_16 : decode cX10_endsAlike 16 = .ok (.iload 4, 2) := gd_X10_endsAlike_9.2.2.2.2.1
theorem dX10_endsAlike_18 : decode cX10_endsAlike 18 = .ok (.iconst 3, 1) := gd_X10_endsAlike_9.2.2.2.2.2.1
theorem dX10_endsAlike_19 : decode cX10_endsAlike 19 = .ok (.if_icmp .lt 9, 3) := gd_X10_endsAlike_9.2.2.2.2.2.2.1
theorem dX10_endsAlike_22 : decode cX10_endsAlike 22 = .ok (.iload 5, 2) := gd_X10_endsAlike_9.2.2.2.2.2.2.2.1
theorem dX10_endsAlike_24 : decode cX10_endsAlike 24 = .ok (.iconst 3, 1) := gd_X10_endsAlike_9.2.2.2.2.2.2.2.2.1
theorem dX10_endsAlike_25 : decode cX10_endsAlike 25 = .ok (.if_icmp .ge 5, 3) := gd_X10_endsAlike_9.2.2.2.2.2.2.2.2.2
theorem gd_X10_endsAlike_28 : decode cX10_endsAlike 28 = .ok (.iconst 0, 1) ∧ decode cX10_endsAlike 29 = .ok (.ireturn, 1) ∧ decode cX10_endsAlike 30 = .ok (.aload_n 0, 1) ∧ decode cX10_endsAlike 31 = .ok (.getfield 18, 3) ∧ decode cX10_endsAlike 34 = .ok (.iload_n 1, 1) ∧ decode cX10_endsAlike 35 = .ok (.aload_n 0, 1) ∧ decode cX10_endsAlike 36 = .ok (.getfield 15, 3) ∧ decode cX10_endsAlike 39 = .ok (.imul, 1) ∧ decode cX10_endsAlike 40 = .ok (.iload 4, 2) ∧ decode cX10_endsAlike 42 = .ok (.iadd, 1) := by decide +kernel
theorem dX10_endsAlike_28 : decode cX10_endsAlike 28 = .ok (.iconst 0, 1) := gd_X10_endsAlike_28.1
theorem dX10_endsAlike_29 : decode cX10_endsAlike 29 = .ok (.ireturn, 1) := gd_X10_endsAlike_28.2.1
theorem dX10_endsAlike_30 : decode cX10_endsAlike 30 = .ok (.aload_n 0, 1) := gd_X10_endsAlike_28.2.2.1
theorem dX10_endsAlike_31 : decode cX10_endsAlike 31 = .ok (.getfield 18, 3) := gd_X10_endsAlike_28.2.2.2.1
theorem dX10_endsAlike_34 : decode cX10_endsAlike 34 = .ok (.iload_n 1, 1) := gd_X10_endsAlike_28.2.2.2.2.1
theorem dX10_endsAlike_35 : decode cX10_endsAlike 35 = .ok (.aload_n 0, 1) := gd_X10_endsAlike_28.2.2.2.2.2.1
theorem dX10_endsAlike_36 : decode cX10_endsAlike 36 = .ok (.getfield 15, 3) := gd_X10_endsAlike_28.2.2.2.2.2.2.1
theorem dX10_endsAlike_39 : decode cX10_endsAlike 39 = .ok (.imul, 1) := gd_X10_endsAlike_28.2.2.2.2.2.2.2.1
theorem dX10_endsAlike_40 : decode cX10_endsAlike 40 = .ok (.iload 4, 2) := gd_X10_endsAlike_28.2.2.2.2.2.2.2.2.1
theorem dX10_endsAlike_42 : decode cX10_endsAlike 42 = .ok (.iadd, 1) := gd_X10_endsAlike_28.2.2.2.2.2.2.2.2.2
theorem gd_X10_endsAlike_43 : decode cX10_endsAlike 43 = .ok (.iconst 3, 1) ∧ decode cX10_endsAlike 44 = .ok (.isub, 1) ∧ decode cX10_endsAlike 45 = .ok (.aload_n 2, 1) ∧ decode cX10_endsAlike 46 = .ok (.getfield 18, 3) ∧ decode cX10_endsAlike 49 = .ok (.iload_n 3, 1) ∧ decode cX10_endsAlike 50 = .ok (.aload_n 2, 1) ∧ decode cX10_endsAlike 51 = .ok (.getfield 15, 3) ∧ decode cX10_endsAlike 54 = .ok (.imul, 1) ∧ decode cX10_endsAlike 55 = .ok (.iload 5, 2) ∧ decode cX10_endsAlike 57 = .ok (.iadd, 1) := by decide +kernel
theorem dX10_endsAlike_43 : decode cX10_endsAlike 43 = .ok (.iconst 3, 1) := gd_X10_endsAlike_43.1
theorem dX10_endsAlike_44 : decode cX10_endsAlike 44 = .ok (.isub, 1) := gd_X10_endsAlike_43.2.1
theorem dX10_endsAlike_45 : decode cX10_endsAlike 45 = .ok (.aload_n 2, 1) := gd_X10_endsAlike_43.2.2.1
theorem dX10_endsAlike_46 : decode cX10_endsAlike 46 = .ok (.getfield 18, 3) := gd_X10_endsAlike_43.2.2.2.1
theorem dX10_endsAlike_49 : decode cX10_endsAlike 49 = .ok (.iload_n 3, 1) := gd_X10_endsAlike_43.2.2.2.2.1
theorem dX10_endsAlike_50 : decode cX10_endsAlike 50 = .ok (.aload_n 2, 1) := gd_X10_endsAlike_43.2.2.2.2.2.1
theorem dX10_endsAlike_51 : decode cX10_endsAlike 51 = .ok (.getfield 15, 3) := gd_X10_endsAlike_43.2.2.2.2.2.2.1
theorem dX10_endsAlike_54 : decode cX10_endsAlike 54 = .ok (.imul, 1) := gd_X10_endsAlike_43.2.2.2.2.2.2.2.1
theorem dX10_endsAlike_55 : decode cX10_endsAlike 55 = .ok (.iload 5, 2) := gd_X10_endsAlike_43.2.2.2.2.2.2.2.2.1
theorem dX10_endsAlike_57 : decode cX10_endsAlike 57 = .ok (.iadd, 1) := gd_X10_endsAlike_43.2.2.2.2.2.2.2.2.2
theorem gd_X10_endsAlike_58 : decode cX10_endsAlike 58 = .ok (.iconst 3, 1) ∧ decode cX10_endsAlike 59 = .ok (.isub, 1) ∧ decode cX10_endsAlike 60 = .ok (.iconst 3, 1) ∧ decode cX10_endsAlike 61 = .ok (.invokestatic 44, 3) ∧ decode cX10_endsAlike 64 = .ok (.ireturn, 1) ∧ decode cX10_letterAt 12 = .ok (.iload_n 2, 1) ∧ decode cX10_letterAt 13 = .ok (.ifCond .lt 13, 3) ∧ decode cX10_letterAt 16 = .ok (.iload_n 2, 1) ∧ decode cX10_letterAt 17 = .ok (.aload_n 0, 1) ∧ decode cX10_letterAt 18 = .ok (.getfield 22, 3) := by decide +kernel
theorem dX10_endsAlike_58 : decode cX10_endsAlike 58 = .ok (.iconst 3, 1) := gd_X10_endsAlike_58.1
theorem dX10_endsAlike_59 : decode cX10_endsAlike 59 = .ok (.isub, 1) := gd_X10_endsAlike_58.2.1
theorem dX10_endsAlike_60 : decode cX10_endsAlike 60 = .ok (.iconst 3, 1) := gd_X10_endsAlike_58.2.2.1
theorem dX10_endsAlike_61 : decode cX10_endsAlike 61 = .ok (.invokestatic 44, 3) := gd_X10_endsAlike_58.2.2.2.1
theorem dX10_endsAlike_64 : decode cX10_endsAlike 64 = .ok (.ireturn, 1) := gd_X10_endsAlike_58.2.2.2.2.1
theorem dX10_letterAt_12 : decode cX10_letterAt 12 = .ok (.iload_n 2, 1) := gd_X10_endsAlike_58.2.2.2.2.2.1
theorem dX10_letterAt_13 : decode cX10_letterAt 13 = .ok (.ifCond .lt 13, 3) := gd_X10_endsAlike_58.2.2.2.2.2.2.1
theorem dX10_letterAt_16 : decode cX10_letterAt 16 = .ok (.iload_n 2, 1) := gd_X10_endsAlike_58.2.2.2.2.2.2.2.1
theorem dX10_letterAt_17 : decode cX10_letterAt 17 = .ok (.aload_n 0, 1) := gd_X10_endsAlike_58.2.2.2.2.2.2.2.2.1
theorem dX10_letterAt_18 : decode cX10_letterAt 18 = .ok (.getfield 22, 3) := gd_X10_endsAlike_58.2.2.2.2.2.2.2.2.2
theorem gd_X10_letterAt_21 : decode cX10_letterAt 21 = .ok (.iload_n 1, 1) ∧ decode cX10_letterAt 22 = .ok (.iaload, 1) ∧ decode cX10_letterAt 23 = .ok (.if_icmp .lt 5, 3) ∧ decode cX10_letterAt 28 = .ok (.aload_n 0, 1) ∧ decode cX10_letterAt 29 = .ok (.getfield 18, 3) ∧ decode cX10_letterAt 32 = .ok (.iload_n 1, 1) ∧ decode cX10_letterAt 33 = .ok (.aload_n 0, 1) ∧ decode cX10_letterAt 34 = .ok (.getfield 15, 3) ∧ decode cX10_letterAt 37 = .ok (.imul, 1) ∧ decode cX10_letterAt 38 = .ok (.iload_n 2, 1) := by decide +kernel
theorem dX10_letterAt_21 : decode cX10_letterAt 21 = .ok (.iload_n 1, 1) := gd_X10_letterAt_21.1
theorem dX10_letterAt_22 : decode cX10_letterAt 22 = .ok (.iaload, 1) := gd_X10_letterAt_21.2.1
theorem dX10_letterAt_23 : decode cX10_letterAt 23 = .ok (.if_icmp .lt 5, 3) := gd_X10_letterAt_21.2.2.1
theorem dX10_letterAt_28 : decode cX10_letterAt 28 = .ok (.aload_n 0, 1) := gd_X10_letterAt_21.2.2.2.1
theorem dX10_letterAt_29 : decode cX10_letterAt 29 = .ok (.getfield 18, 3) := gd_X10_letterAt_21.2.2.2.2.1
theorem dX10_letterAt_32 : decode cX10_letterAt 32 = .ok (.iload_n 1, 1) := gd_X10_letterAt_21.2.2.2.2.2.1
theorem dX10_letterAt_33 : decode cX10_letterAt 33 = .ok (.aload_n 0, 1) := gd_X10_letterAt_21.2.2.2.2.2.2.1
theorem dX10_letterAt_34 : decode cX10_letterAt 34 = .ok (.getfield 15, 3) := gd_X10_letterAt_21.2.2.2.2.2.2.2.1
theorem dX10_letterAt_37 : decode cX10_letterAt 37 = .ok (.imul, 1) := gd_X10_letterAt_21.2.2.2.2.2.2.2.2.1
theorem dX10_letterAt_38 : decode cX10_letterAt 38 = .ok (.iload_n 2, 1) := gd_X10_letterAt_21.2.2.2.2.2.2.2.2.2
theorem gd_X10_letterAt_39 : decode cX10_letterAt 39 = .ok (.iadd, 1) ∧ decode cX10_letterAt 40 = .ok (.baload, 1) ∧ decode cX10_letterAt 41 = .ok (.ireturn, 1) ∧ decode cX11_feed 16 = .ok (.bipush (-3), 2) ∧ decode cX11_feed 18 = .ok (.ireturn, 1) ∧ decode cX11_about 12 = .ok (.iload_n 2, 1) ∧ decode cX11_about 13 = .ok (.tableswitch 71 0 4 #[35, 40, 45, 53, 58], 35) ∧ decode cX11_about 48 = .ok (.aload_n 3, 1) ∧ decode cX11_about 49 = .ok (.getfield 142, 3) ∧ decode cX11_about 52 = .ok (.ireturn, 1) := by decide +kernel
theorem dX10_letterAt_39 : decode cX10_letterAt 39 = .ok (.iadd, 1) := gd_X10_letterAt_39.1
theorem dX10_letterAt_40 : decode cX10_letterAt 40 = .ok (.baload, 1) := gd_X10_letterAt_39.2.1
theorem dX10_letterAt_41 : decode cX10_letterAt 41 = .ok (.ireturn, 1) := gd_X10_letterAt_39.2.2.1
theorem dX11_feed_16 : decode cX11_feed 16 = .ok (.bipush (-3), 2) := gd_X10_letterAt_39.2.2.2.1
theorem dX11_feed_18 : decode cX11_feed 18 = .ok (.ireturn, 1) := gd_X10_letterAt_39.2.2.2.2.1
theorem dX11_about_12 : decode cX11_about 12 = .ok (.iload_n 2, 1) := gd_X10_letterAt_39.2.2.2.2.2.1
theorem dX11_about_13 : decode cX11_about 13 = .ok (.tableswitch 71 0 4 #[35, 40, 45, 53, 58], 35) := gd_X10_letterAt_39.2.2.2.2.2.2.1
theorem dX11_about_48 : decode cX11_about 48 = .ok (.aload_n 3, 1) := gd_X10_letterAt_39.2.2.2.2.2.2.2.1
theorem dX11_about_49 : decode cX11_about 49 = .ok (.getfield 142, 3) := gd_X10_letterAt_39.2.2.2.2.2.2.2.2.1
theorem dX11_about_52 : decode cX11_about 52 = .ok (.ireturn, 1) := gd_X10_letterAt_39.2.2.2.2.2.2.2.2.2
theorem gd_X11_about_53 : decode cX11_about 53 = .ok (.aload_n 3, 1) ∧ decode cX11_about 54 = .ok (.getfield 145, 3) ∧ decode cX11_about 57 = .ok (.ireturn, 1) ∧ decode cX11_about 58 = .ok (.aload_n 3, 1) ∧ decode cX11_about 59 = .ok (.getfield 148, 3) ∧ decode cX11_about 62 = .ok (.getfield 151, 3) ∧ decode cX11_about 65 = .ok (.ireturn, 1) ∧ decode cX11_about 66 = .ok (.aload_n 3, 1) ∧ decode cX11_about 67 = .ok (.getfield 154, 3) ∧ decode cX11_about 70 = .ok (.ireturn, 1) := by decide +kernel
theorem dX11_about_53 : decode cX11_about 53 = .ok (.aload_n 3, 1) := gd_X11_about_53.1
theorem dX11_about_54 : decode cX11_about 54 = .ok (.getfield 145, 3) := gd_X11_about_53.2.1
theorem dX11_about_57 : decode cX11_about 57 = .ok (.ireturn, 1) := gd_X11_about_53.2.2.1
theorem dX11_about_58 : decode cX11_about 58 = .ok (.aload_n 3, 1) := gd_X11_about_53.2.2.2.1
theorem dX11_about_59 : decode cX11_about 59 = .ok (.getfield 148, 3) := gd_X11_about_53.2.2.2.2.1
theorem dX11_about_62 : decode cX11_about 62 = .ok (.getfield 151, 3) := gd_X11_about_53.2.2.2.2.2.1
theorem dX11_about_65 : decode cX11_about 65 = .ok (.ireturn, 1) := gd_X11_about_53.2.2.2.2.2.2.1
theorem dX11_about_66 : decode cX11_about 66 = .ok (.aload_n 3, 1) := gd_X11_about_53.2.2.2.2.2.2.2.1
theorem dX11_about_67 : decode cX11_about 67 = .ok (.getfield 154, 3) := gd_X11_about_53.2.2.2.2.2.2.2.2.1
theorem dX11_about_70 : decode cX11_about 70 = .ok (.ireturn, 1) := gd_X11_about_53.2.2.2.2.2.2.2.2.2
theorem gd_X11_about_71 : decode cX11_about 71 = .ok (.aload_n 3, 1) ∧ decode cX11_about 72 = .ok (.getfield 157, 3) ∧ decode cX11_about 75 = .ok (.getfield 151, 3) ∧ decode cX11_about 78 = .ok (.aload_n 3, 1) ∧ decode cX11_about 79 = .ok (.getfield 154, 3) ∧ decode cX11_about 82 = .ok (.isub, 1) ∧ decode cX11_about 83 = .ok (.ireturn, 1) ∧ decode cX11_about 84 = .ok (.iconst (-1), 1) ∧ decode cX11_about 85 = .ok (.ireturn, 1) ∧ decode cX11_stage 25 = .ok (.aload_n 0, 1) := by decide +kernel
theorem dX11_about_71 : decode cX11_about 71 = .ok (.aload_n 3, 1) := gd_X11_about_71.1
theorem dX11_about_72 : decode cX11_about 72 = .ok (.getfield 157, 3) := gd_X11_about_71.2.1
theorem dX11_about_75 : decode cX11_about 75 = .ok (.getfield 151, 3) := gd_X11_about_71.2.2.1
theorem dX11_about_78 : decode cX11_about 78 = .ok (.aload_n 3, 1) := gd_X11_about_71.2.2.2.1
theorem dX11_about_79 : decode cX11_about 79 = .ok (.getfield 154, 3) := gd_X11_about_71.2.2.2.2.1
theorem dX11_about_82 : decode cX11_about 82 = .ok (.isub, 1) := gd_X11_about_71.2.2.2.2.2.1
theorem dX11_about_83 : decode cX11_about 83 = .ok (.ireturn, 1) := gd_X11_about_71.2.2.2.2.2.2.1
theorem dX11_about_84 : decode cX11_about 84 = .ok (.iconst (-1), 1) := gd_X11_about_71.2.2.2.2.2.2.2.1
theorem dX11_about_85 : decode cX11_about 85 = .ok (.ireturn, 1) := gd_X11_about_71.2.2.2.2.2.2.2.2.1
theorem dX11_stage_25 : decode cX11_stage 25 = .ok (.aload_n 0, 1) := gd_X11_about_71.2.2.2.2.2.2.2.2.2
theorem gd_X11_stage_26 : decode cX11_stage 26 = .ok (.getfield 18, 3) ∧ decode cX11_stage 29 = .ok (.iload_n 3, 1) ∧ decode cX11_stage 30 = .ok (.aaload, 1) ∧ decode cX11_stage 31 = .ok (.astore 4, 2) ∧ decode cX11_stage 33 = .ok (.aload 4, 2) ∧ decode cX11_stage 35 = .ok (.ifnull 15, 3) ∧ decode cX11_stage 38 = .ok (.aload 4, 2) ∧ decode cX11_stage 40 = .ok (.getfield 142, 3) ∧ decode cX11_stage 43 = .ok (.iload_n 1, 1) ∧ decode cX11_stage 44 = .ok (.if_icmp .gt 6, 3) := by decide +kernel
theorem dX11_stage_26 : decode cX11_stage 26 = .ok (.getfield 18, 3) := gd_X11_stage_26.1
theorem dX11_stage_29 : decode cX11_stage 29 = .ok (.iload_n 3, 1) := gd_X11_stage_26.2.1
theorem dX11_stage_30 : decode cX11_stage 30 = .ok (.aaload, 1) := gd_X11_stage_26.2.2.1
theorem dX11_stage_31 : decode cX11_stage 31 = .ok (.astore 4, 2) := gd_X11_stage_26.2.2.2.1
theorem dX11_stage_33 : decode cX11_stage 33 = .ok (.aload 4, 2) := gd_X11_stage_26.2.2.2.2.1
theorem dX11_stage_35 : decode cX11_stage 35 = .ok (.ifnull 15, 3) := gd_X11_stage_26.2.2.2.2.2.1
theorem dX11_stage_38 : decode cX11_stage 38 = .ok (.aload 4, 2) := gd_X11_stage_26.2.2.2.2.2.2.1
theorem dX11_stage_40 : decode cX11_stage 40 = .ok (.getfield 142, 3) := gd_X11_stage_26.2.2.2.2.2.2.2.1
theorem dX11_stage_43 : decode cX11_stage 43 = .ok (.iload_n 1, 1) := gd_X11_stage_26.2.2.2.2.2.2.2.2.1
theorem dX11_stage_44 : decode cX11_stage 44 = .ok (.if_icmp .gt 6, 3) := gd_X11_stage_26.2.2.2.2.2.2.2.2.2
theorem gd_X11_stage_47 : decode cX11_stage 47 = .ok (.iinc 2 1, 3) ∧ decode cX11_stage 50 = .ok (.iinc 3 1, 3) ∧ decode cX11_stage 53 = .ok (.goto (-36), 3) ∧ decode cX11_reformAt 16 = .ok (.aload_n 0, 1) ∧ decode cX11_reformAt 17 = .ok (.getfield 18, 3) ∧ decode cX11_reformAt 20 = .ok (.iload_n 1, 1) ∧ decode cX11_reformAt 21 = .ok (.aaload, 1) := by decide +kernel
theorem dX11_stage_47 : decode cX11_stage 47 = .ok (.iinc 2 1, 3) := gd_X11_stage_47.1
theorem dX11_stage_50 : decode cX11_stage 50 = .ok (.iinc 3 1, 3) := gd_X11_stage_47.2.1
theorem dX11_stage_53 : decode cX11_stage 53 = .ok (.goto (-36), 3) := gd_X11_stage_47.2.2.1
theorem dX11_reformAt_16 : decode cX11_reformAt 16 = .ok (.aload_n 0, 1) := gd_X11_stage_47.2.2.2.1
theorem dX11_reformAt_17 : decode cX11_reformAt 17 = .ok (.getfield 18, 3) := gd_X11_stage_47.2.2.2.2.1
theorem dX11_reformAt_20 : decode cX11_reformAt 20 = .ok (.iload_n 1, 1) := gd_X11_stage_47.2.2.2.2.2.1
theorem dX11_reformAt_21 : decode cX11_reformAt 21 = .ok (.aaload, 1) := gd_X11_stage_47.2.2.2.2.2.2
set_option maxHeartbeats 4000000 in
set_option maxRecDepth 100000 in
theorem bm_X10_isSmall {p : Program} {l : Launch} {e : Env} {s : State} {m : MethodId} {args : Array Value} {below : List Frame} {meth : Method} {c : Code} {Q : State → Prop} {A : Nat → Prop} {dC : Nat → ClassId} {dI : Nat → Nat → Nat} {kk : Nat → ClassId} {ad : Nat → Nat} {ws : va_W} {G : Nat → Nat → Int32} {P : Nat → Nat → Option Nat} {U : Nat → Nat → Int64} {V : Nat → Nat → Nat → Int32} {X : Nat → Nat → Nat → Int64} {O : Nat → Nat → Nat → Option Nat} {kd : Nat → Nat} {ln : Nat → Nat} {cnt : Nat} {H : Heap} {locs : List Loc} {ls : Array Slot} (p0 : Int32) (r : Int32) (hr : f_X10_isSmall G P U V X O kd ln cnt p0 = some r) (hx : p.tables.exec = Jvm.exec) (hb : c.code = cX10_isSmall) (hml : c.maxLocals = 1) (hown : s.vm.findClass RX10 = some m.cls) (hts : ∀ w ∈ vmX10_isSmall, w.before args s = true) (hA : ∀ q : Nat, s.heap.size ≤ q → A q) (hK : va_K (dC, dI) vwCl (cT kk) s) (hW : LW ws ad kk kd ln G P U V X O) (hT : TYP kd P O (V 0) cnt) (hP : va_P (dC, dI) vwCl ws H) (hD : va_D A ws) (hS : va_S A s.heap H locs) (hl : lv_has ls 1 [(0, .int p0)])
    (K : ∀ (pc : Nat) (ls : Array Slot) (rz : Int32) (ws : va_W) (H : Heap) (locs : List Loc), some rz = some r → is01 rz → decode cX10_isSmall pc = .ok (.ireturn, 1) → LW ws ad kk kd ln G P U V X O → TYP kd P O (V 0) cnt → va_P (dC, dI) vwCl ws H → va_D A ws → va_S A s.heap H locs → W p l e ({ frames := 2, cells := 0, slots := 0, locals := 60 } : Room) s m args below meth c H locs 0 0 Q (F0 m pc ls [.int rz])) : W p l e ({ frames := 2, cells := 0, slots := 0, locals := 60 } : Room) s m args below meth c H locs 0 0 Q (F0 m 0 ls []) := by
  unfold f_X10_isSmall at hr
  refine lv_iload_n hx hb dX10_isSmall_0 rfl (lv_at hl 0 rfl) ?_
  refine lv_bipush (v := 97) hx hb dX10_isSmall_1 (by decide +kernel) ?_
  replace hr := jnS hr
  obtain ⟨j17, hj17, hr⟩ := hr
  have Jj17 : ∀ (t17_0 : Int32) (ws : va_W) (H : Heap) (locs : List Loc) (ls : Array Slot), j17 t17_0 = some r → LW ws ad kk kd ln G P U V X O → TYP kd P O (V 0) cnt → va_P (dC, dI) vwCl ws H → va_D A ws → va_S A s.heap H locs → lv_has ls 1 [] → W p l e ({ frames := 2, cells := 0, slots := 0, locals := 60 } : Room) s m args below meth c H locs 0 0 Q (F0 m 17 ls [.int t17_0]) := by
    intro t17_0 ws H locs ls hr hW hT hP hD hS hl
    rw [hj17] at hr
    replace hr := iteS hr
    obtain ⟨hz17, hr⟩ := hr
    exact K 17 ls _ ws H _ hr hz17 dX10_isSmall_17 hW hT hP hD hS
  replace hr := jnS hr
  obtain ⟨j16, hj16, hr⟩ := hr
  have Jj16 : ∀ (ws : va_W) (H : Heap) (locs : List Loc) (ls : Array Slot), j16 () = some r → LW ws ad kk kd ln G P U V X O → TYP kd P O (V 0) cnt → va_P (dC, dI) vwCl ws H → va_D A ws → va_S A s.heap H locs → lv_has ls 1 [] → W p l e ({ frames := 2, cells := 0, slots := 0, locals := 60 } : Room) s m args below meth c H locs 0 0 Q (F0 m 16 ls []) := by
    intro ws H locs ls hr hW hT hP hD hS hl
    rw [hj16] at hr
    refine lv_iconst (v := 0) hx hb dX10_isSmall_16 (by decide +kernel) ?_
    exact Jj17 0 ws H _ ls hr hW hT hP hD hS (lv_sub hl [] rfl)
  refine lv_icmp_lt (tgt := 16) hx hb dX10_isSmall_3 (by decide) (fun c3 => ?_) (fun c3 => ?_)
  · replace hr := iteT c3 hr
    exact Jj16 ws H _ ls hr hW hT hP hD hS (lv_sub hl [] rfl)
  · replace hr := iteF c3 hr
    refine lv_iload_n hx hb dX10_isSmall_6 rfl (lv_at hl 0 rfl) ?_
    refine lv_bipush (v := 122) hx hb dX10_isSmall_7 (by decide +kernel) ?_
    refine lv_icmp_gt (tgt := 16) hx hb dX10_isSmall_9 (by decide) (fun c9 => ?_) (fun c9 => ?_)
    · replace hr := iteT c9 hr
      exact Jj16 ws H _ ls hr hW hT hP hD hS (lv_sub hl [] rfl)
    · replace hr := iteF c9 hr
      refine lv_iconst (v := 1) hx hb dX10_isSmall_12 (by decide +kernel) ?_
      refine lv_goto (tgt := 17) hx hb dX10_isSmall_13 (by decide) ?_
      exact Jj17 1 ws H _ ls hr hW hT hP hD hS (lv_sub hl [] rfl)
set_option maxHeartbeats 4000000 in
set_option maxRecDepth 100000 in
theorem m_X10_isSmall (l : Launch) (dC : Nat → ClassId) (dI : Nat → Nat → Nat) (kk : Nat → ClassId) (ad : Nat → Nat) (sz : Nat) (ws : va_W) (G : Nat → Nat → Int32) (P : Nat → Nat → Option Nat) (U : Nat → Nat → Int64) (V : Nat → Nat → Nat → Int32) (X : Nat → Nat → Nat → Int64) (O : Nat → Nat → Nat → Option Nat) (kd : Nat → Nat) (ln : Nat → Nat) (cnt : Nat) (p0 : Int32) (hW : LW ws ad kk kd ln G P U V X O) (hT : TYP kd P O (V 0) cnt) (r : Int32) (hr : f_X10_isSmall G P U V X O kd ln cnt p0 = some r) : Met l yX10_isSmall vmX10_isSmall ({ frames := 2, cells := 0, slots := 0, locals := 60 } : Room) (va_Pc [.int p0] (fun U => U.heap.size = sz ∧ va_P (dC, dI) vwCl ws U.heap ∧ va_K (dC, dI) vwCl (cT kk) U ∧ va_D (fun _ => True) ws)) (va_Qi (fun (rz : Int32) (w : va_W) => rz = r ∧ LW w ad kk kd ln G P U V X O ∧ TYP kd P O (V 0) cnt) (fun w t => va_P (dC, dI) vwCl w t.heap ∧ va_K (dC, dI) vwCl (cT kk) t ∧ va_D (va_A ws sz) w) (va_A ws sz)) 0 0 (va_A ws sz) := by
  refine Met.ofW (cc := cX10_isSmall) (maxL := 1) (ret := (some .boolean)) (by decide) rfl ?_
  intro p e s m args below meth c s₁ B hml hv
  obtain ⟨rfl, hsz, hP, hK, hD0⟩ := hv
  have hx := B.exec
  have hb := B.bytes
  have hrt := B.returns
  have hts := atoms_spec (ws := vmX10_isSmall) B.pre
  have hown : s.vm.findClass RX10 = some m.cls := findClass_of_methodNamed B.named
  subst hsz
  have hD := hD0.self (sz := s.heap.size)
  generalize hAe : va_A ws s.heap.size = A at hD ⊢
  have hA : ∀ q : Nat, s.heap.size ≤ q → A q := fun q h => by rw [← hAe]; exact Or.inr h
  have hS : va_S A s.heap s.heap [] := va_S.rf
  have hl := lv_entry ([.int p0]) (n := 1) (Nat.le_of_ble_eq_true rfl)
  rw [lg_entry_eq]
  generalize (lg_sl ([.int p0]) ++ List.replicate (1 - (lg_sl ([.int p0])).length) Slot.unset).toArray = ls at hl ⊢
  exact bm_X10_isSmall p0 r hr hx hb hml hown hts hA hK hW hT hP hD hS hl (fun pc ls rz ws H locs he hz hd hW hT hP hD hS => by cases he; exact W.zret (v := r) hx hb hrt (z_nb hz) (fun t ht hW9 => ⟨⟨r, ws, rfl, ⟨rfl, hW, hT⟩, by rw [ht]; exact hP, va_K.moved hW9.alike hK, hD⟩, hS.F ht⟩) hS.2.2 hd)
set_option maxHeartbeats 4000000 in
set_option maxRecDepth 100000 in
theorem bm_X10_isCapital {p : Program} {l : Launch} {e : Env} {s : State} {m : MethodId} {args : Array Value} {below : List Frame} {meth : Method} {c : Code} {Q : State → Prop} {A : Nat → Prop} {dC : Nat → ClassId} {dI : Nat → Nat → Nat} {kk : Nat → ClassId} {ad : Nat → Nat} {ws : va_W} {G : Nat → Nat → Int32} {P : Nat → Nat → Option Nat} {U : Nat → Nat → Int64} {V : Nat → Nat → Nat → Int32} {X : Nat → Nat → Nat → Int64} {O : Nat → Nat → Nat → Option Nat} {kd : Nat → Nat} {ln : Nat → Nat} {cnt : Nat} {H : Heap} {locs : List Loc} {ls : Array Slot} (p0 : Int32) (r : Int32) (hr : f_X10_isCapital G P U V X O kd ln cnt p0 = some r) (hx : p.tables.exec = Jvm.exec) (hb : c.code = cX10_isCapital) (hml : c.maxLocals = 1) (hown : s.vm.findClass RX10 = some m.cls) (hts : ∀ w ∈ vmX10_isCapital, w.before args s = true) (hA : ∀ q : Nat, s.heap.size ≤ q → A q) (hK : va_K (dC, dI) vwCl (cT kk) s) (hW : LW ws ad kk kd ln G P U V X O) (hT : TYP kd P O (V 0) cnt) (hP : va_P (dC, dI) vwCl ws H) (hD : va_D A ws) (hS : va_S A s.heap H locs) (hl : lv_has ls 1 [(0, .int p0)])
    (K : ∀ (pc : Nat) (ls : Array Slot) (rz : Int32) (ws : va_W) (H : Heap) (locs : List Loc), some rz = some r → is01 rz → decode cX10_isCapital pc = .ok (.ireturn, 1) → LW ws ad kk kd ln G P U V X O → TYP kd P O (V 0) cnt → va_P (dC, dI) vwCl ws H → va_D A ws → va_S A s.heap H locs → W p l e ({ frames := 2, cells := 0, slots := 0, locals := 60 } : Room) s m args below meth c H locs 0 0 Q (F0 m pc ls [.int rz])) : W p l e ({ frames := 2, cells := 0, slots := 0, locals := 60 } : Room) s m args below meth c H locs 0 0 Q (F0 m 0 ls []) := by
  unfold f_X10_isCapital at hr
  refine lv_iload_n hx hb dX10_isCapital_0 rfl (lv_at hl 0 rfl) ?_
  refine lv_bipush (v := 65) hx hb dX10_isCapital_1 (by decide +kernel) ?_
  replace hr := jnS hr
  obtain ⟨j17, hj17, hr⟩ := hr
  have Jj17 : ∀ (t17_0 : Int32) (ws : va_W) (H : Heap) (locs : List Loc) (ls : Array Slot), j17 t17_0 = some r → LW ws ad kk kd ln G P U V X O → TYP kd P O (V 0) cnt → va_P (dC, dI) vwCl ws H → va_D A ws → va_S A s.heap H locs → lv_has ls 1 [] → W p l e ({ frames := 2, cells := 0, slots := 0, locals := 60 } : Room) s m args below meth c H locs 0 0 Q (F0 m 17 ls [.int t17_0]) := by
    intro t17_0 ws H locs ls hr hW hT hP hD hS hl
    rw [hj17] at hr
    replace hr := iteS hr
    obtain ⟨hz17, hr⟩ := hr
    exact K 17 ls _ ws H _ hr hz17 dX10_isCapital_17 hW hT hP hD hS
  replace hr := jnS hr
  obtain ⟨j16, hj16, hr⟩ := hr
  have Jj16 : ∀ (ws : va_W) (H : Heap) (locs : List Loc) (ls : Array Slot), j16 () = some r → LW ws ad kk kd ln G P U V X O → TYP kd P O (V 0) cnt → va_P (dC, dI) vwCl ws H → va_D A ws → va_S A s.heap H locs → lv_has ls 1 [] → W p l e ({ frames := 2, cells := 0, slots := 0, locals := 60 } : Room) s m args below meth c H locs 0 0 Q (F0 m 16 ls []) := by
    intro ws H locs ls hr hW hT hP hD hS hl
    rw [hj16] at hr
    refine lv_iconst (v := 0) hx hb dX10_isCapital_16 (by decide +kernel) ?_
    exact Jj17 0 ws H _ ls hr hW hT hP hD hS (lv_sub hl [] rfl)
  refine lv_icmp_lt (tgt := 16) hx hb dX10_isCapital_3 (by decide) (fun c3 => ?_) (fun c3 => ?_)
  · replace hr := iteT c3 hr
    exact Jj16 ws H _ ls hr hW hT hP hD hS (lv_sub hl [] rfl)
  · replace hr := iteF c3 hr
    refine lv_iload_n hx hb dX10_isCapital_6 rfl (lv_at hl 0 rfl) ?_
    refine lv_bipush (v := 90) hx hb dX10_isCapital_7 (by decide +kernel) ?_
    refine lv_icmp_gt (tgt := 16) hx hb dX10_isCapital_9 (by decide) (fun c9 => ?_) (fun c9 => ?_)
    · replace hr := iteT c9 hr
      exact Jj16 ws H _ ls hr hW hT hP hD hS (lv_sub hl [] rfl)
    · replace hr := iteF c9 hr
      refine lv_iconst (v := 1) hx hb dX10_isCapital_12 (by decide +kernel) ?_
      refine lv_goto (tgt := 17) hx hb dX10_isCapital_13 (by decide) ?_
      exact Jj17 1 ws H _ ls hr hW hT hP hD hS (lv_sub hl [] rfl)
set_option maxHeartbeats 4000000 in
set_option maxRecDepth 100000 in
theorem m_X10_isCapital (l : Launch) (dC : Nat → ClassId) (dI : Nat → Nat → Nat) (kk : Nat → ClassId) (ad : Nat → Nat) (sz : Nat) (ws : va_W) (G : Nat → Nat → Int32) (P : Nat → Nat → Option Nat) (U : Nat → Nat → Int64) (V : Nat → Nat → Nat → Int32) (X : Nat → Nat → Nat → Int64) (O : Nat → Nat → Nat → Option Nat) (kd : Nat → Nat) (ln : Nat → Nat) (cnt : Nat) (p0 : Int32) (hW : LW ws ad kk kd ln G P U V X O) (hT : TYP kd P O (V 0) cnt) (r : Int32) (hr : f_X10_isCapital G P U V X O kd ln cnt p0 = some r) : Met l yX10_isCapital vmX10_isCapital ({ frames := 2, cells := 0, slots := 0, locals := 60 } : Room) (va_Pc [.int p0] (fun U => U.heap.size = sz ∧ va_P (dC, dI) vwCl ws U.heap ∧ va_K (dC, dI) vwCl (cT kk) U ∧ va_D (fun _ => True) ws)) (va_Qi (fun (rz : Int32) (w : va_W) => rz = r ∧ LW w ad kk kd ln G P U V X O ∧ TYP kd P O (V 0) cnt) (fun w t => va_P (dC, dI) vwCl w t.heap ∧ va_K (dC, dI) vwCl (cT kk) t ∧ va_D (va_A ws sz) w) (va_A ws sz)) 0 0 (va_A ws sz) := by
  refine Met.ofW (cc := cX10_isCapital) (maxL := 1) (ret := (some .boolean)) (by decide) rfl ?_
  intro p e s m args below meth c s₁ B hml hv
  obtain ⟨rfl, hsz, hP, hK, hD0⟩ := hv
  have hx := B.exec
  have hb := B.bytes
  have hrt := B.returns
  have hts := atoms_spec (ws := vmX10_isCapital) B.pre
  have hown : s.vm.findClass RX10 = some m.cls := findClass_of_methodNamed B.named
  subst hsz
  have hD := hD0.self (sz := s.heap.size)
  generalize hAe : va_A ws s.heap.size = A at hD ⊢
  have hA : ∀ q : Nat, s.heap.size ≤ q → A q := fun q h => by rw [← hAe]; exact Or.inr h
  have hS : va_S A s.heap s.heap [] := va_S.rf
  have hl := lv_entry ([.int p0]) (n := 1) (Nat.le_of_ble_eq_true rfl)
  rw [lg_entry_eq]
  generalize (lg_sl ([.int p0]) ++ List.replicate (1 - (lg_sl ([.int p0])).length) Slot.unset).toArray = ls at hl ⊢
  exact bm_X10_isCapital p0 r hr hx hb hml hown hts hA hK hW hT hP hD hS hl (fun pc ls rz ws H locs he hz hd hW hT hP hD hS => by cases he; exact W.zret (v := r) hx hb hrt (z_nb hz) (fun t ht hW9 => ⟨⟨r, ws, rfl, ⟨rfl, hW, hT⟩, by rw [ht]; exact hP, va_K.moved hW9.alike hK, hD⟩, hS.F ht⟩) hS.2.2 hd)
set_option maxHeartbeats 4000000 in
set_option maxRecDepth 100000 in
theorem bm_X10_isFull {p : Program} {l : Launch} {e : Env} {s : State} {m : MethodId} {args : Array Value} {below : List Frame} {meth : Method} {c : Code} {Q : State → Prop} {A : Nat → Prop} {dC : Nat → ClassId} {dI : Nat → Nat → Nat} {kk : Nat → ClassId} {ad : Nat → Nat} {ws : va_W} {G : Nat → Nat → Int32} {P : Nat → Nat → Option Nat} {U : Nat → Nat → Int64} {V : Nat → Nat → Nat → Int32} {X : Nat → Nat → Nat → Int64} {O : Nat → Nat → Nat → Option Nat} {kd : Nat → Nat} {ln : Nat → Nat} {cnt : Nat} {H : Heap} {locs : List Loc} {ls : Array Slot} (this : Nat) (hk_this : kd this = 11) (r : Int32) (hr : f_X10_isFull G P U V X O kd ln cnt this = some r) (hx : p.tables.exec = Jvm.exec) (hb : c.code = cX10_isFull) (hml : c.maxLocals = 1) (hown : s.vm.findClass RX10 = some m.cls) (hts : ∀ w ∈ vmX10_isFull, w.before args s = true) (hA : ∀ q : Nat, s.heap.size ≤ q → A q) (hK : va_K (dC, dI) vwCl (cT kk) s) (hW : LW ws ad kk kd ln G P U V X O) (hT : TYP kd P O (V 0) cnt) (hP : va_P (dC, dI) vwCl ws H) (hD : va_D A ws) (hS : va_S A s.heap H locs) (hl : lv_has ls 1 [(0, .ref (ad this))])
    (K : ∀ (pc : Nat) (ls : Array Slot) (rz : Int32) (ws : va_W) (H : Heap) (locs : List Loc), some rz = some r → is01 rz → decode cX10_isFull pc = .ok (.ireturn, 1) → LW ws ad kk kd ln G P U V X O → TYP kd P O (V 0) cnt → va_P (dC, dI) vwCl ws H → va_D A ws → va_S A s.heap H locs → W p l e ({ frames := 2, cells := 0, slots := 0, locals := 60 } : Room) s m args below meth c H locs 0 0 Q (F0 m pc ls [.int rz])) : W p l e ({ frames := 2, cells := 0, slots := 0, locals := 60 } : Room) s m args below meth c H locs 0 0 Q (F0 m 0 ls []) := by
  unfold f_X10_isFull at hr
  refine lv_aload_n hx hb dX10_isFull_0 rfl (lv_at hl 0 rfl) ?_
  obtain ⟨i1, hi1⟩ := hW.o10 hk_this
  refine va_get (D := (dC, dI)) (ci := 10) (v := .int ((G 203) this)) (C := RX10) (T := TX10) (N := 4) hx hb hts inX10 hown hK hP i1 hi1 rfl 3 (by decide) (hts (.fieldLink RX10 9 "SpellTurner$WordRow" "count" "I") ic_5) (fun _ h9 => h9) rfl dX10_isFull_1 ?_
  refine lv_aload_n hx hb dX10_isFull_4 rfl (lv_at hl 0 rfl) ?_
  obtain ⟨i2, hi2⟩ := hW.o10 hk_this
  replace hr := nnS hr
  obtain ⟨a5, hn5, hr⟩ := hr
  have hk_a5 : kd a5 = 101 := hT.1 202 _ _ hn5
  refine va_get (D := (dC, dI)) (ci := 10) (v := .ref (ad a5)) (C := RX10) (T := TX10) (N := 4) hx hb hts inX10 hown hK hP i2 hi2 rfl 2 (by decide) (hts (.fieldLink RX10 22 "SpellTurner$WordRow" "lengths" "[I") ic_6) (fun _ h9 => h9) (congrArg (fun o => some (va_re ad o)) hn5) dX10_isFull_5 ?_
  obtain ⟨i3, hi3⟩ := hW.v1 hk_a5
  refine va_alen (v := (Int32.ofNat (ln a5))) hx hb hK hP i3 1 hi3 rfl rfl dX10_isFull_8 ?_
  replace hr := jnS hr
  obtain ⟨j17, hj17, hr⟩ := hr
  have Jj17 : ∀ (t17_0 : Int32) (ws : va_W) (H : Heap) (locs : List Loc) (ls : Array Slot), j17 t17_0 = some r → LW ws ad kk kd ln G P U V X O → TYP kd P O (V 0) cnt → va_P (dC, dI) vwCl ws H → va_D A ws → va_S A s.heap H locs → lv_has ls 1 [] → W p l e ({ frames := 2, cells := 0, slots := 0, locals := 60 } : Room) s m args below meth c H locs 0 0 Q (F0 m 17 ls [.int t17_0]) := by
    intro t17_0 ws H locs ls hr hW hT hP hD hS hl
    rw [hj17] at hr
    replace hr := iteS hr
    obtain ⟨hz17, hr⟩ := hr
    exact K 17 ls _ ws H _ hr hz17 dX10_isFull_17 hW hT hP hD hS
  refine lv_icmp_lt (tgt := 16) hx hb dX10_isFull_9 (by decide) (fun c9 => ?_) (fun c9 => ?_)
  · replace hr := iteT c9 hr
    refine lv_iconst (v := 0) hx hb dX10_isFull_16 (by decide +kernel) ?_
    exact Jj17 0 ws H _ ls hr hW hT hP hD hS (lv_sub hl [] rfl)
  · replace hr := iteF c9 hr
    refine lv_iconst (v := 1) hx hb dX10_isFull_12 (by decide +kernel) ?_
    refine lv_goto (tgt := 17) hx hb dX10_isFull_13 (by decide) ?_
    exact Jj17 1 ws H _ ls hr hW hT hP hD hS (lv_sub hl [] rfl)
set_option maxHeartbeats 4000000 in
set_option maxRecDepth 100000 in
theorem m_X10_isFull (l : Launch) (dC : Nat → ClassId) (dI : Nat → Nat → Nat) (kk : Nat → ClassId) (ad : Nat → Nat) (sz : Nat) (ws : va_W) (G : Nat → Nat → Int32) (P : Nat → Nat → Option Nat) (U : Nat → Nat → Int64) (V : Nat → Nat → Nat → Int32) (X : Nat → Nat → Nat → Int64) (O : Nat → Nat → Nat → Option Nat) (kd : Nat → Nat) (ln : Nat → Nat) (cnt : Nat) (this : Nat) (hk_this : kd this = 11) (hW : LW ws ad kk kd ln G P U V X O) (hT : TYP kd P O (V 0) cnt) (r : Int32) (hr : f_X10_isFull G P U V X O kd ln cnt this = some r) : Met l yX10_isFull vmX10_isFull ({ frames := 2, cells := 0, slots := 0, locals := 60 } : Room) (va_Pc [.ref (ad this)] (fun U => U.heap.size = sz ∧ va_P (dC, dI) vwCl ws U.heap ∧ va_K (dC, dI) vwCl (cT kk) U ∧ va_D (fun _ => True) ws)) (va_Qi (fun (rz : Int32) (w : va_W) => rz = r ∧ LW w ad kk kd ln G P U V X O ∧ TYP kd P O (V 0) cnt) (fun w t => va_P (dC, dI) vwCl w t.heap ∧ va_K (dC, dI) vwCl (cT kk) t ∧ va_D (va_A ws sz) w) (va_A ws sz)) 0 0 (va_A ws sz) := by
  refine Met.ofW (cc := cX10_isFull) (maxL := 1) (ret := (some .boolean)) (by decide) rfl ?_
  intro p e s m args below meth c s₁ B hml hv
  obtain ⟨rfl, hsz, hP, hK, hD0⟩ := hv
  have hx := B.exec
  have hb := B.bytes
  have hrt := B.returns
  have hts := atoms_spec (ws := vmX10_isFull) B.pre
  have hown : s.vm.findClass RX10 = some m.cls := findClass_of_methodNamed B.named
  subst hsz
  have hD := hD0.self (sz := s.heap.size)
  generalize hAe : va_A ws s.heap.size = A at hD ⊢
  have hA : ∀ q : Nat, s.heap.size ≤ q → A q := fun q h => by rw [← hAe]; exact Or.inr h
  have hS : va_S A s.heap s.heap [] := va_S.rf
  have hl := lv_entry ([.ref (ad this)]) (n := 1) (Nat.le_of_ble_eq_true rfl)
  rw [lg_entry_eq]
  generalize (lg_sl ([.ref (ad this)]) ++ List.replicate (1 - (lg_sl ([.ref (ad this)])).length) Slot.unset).toArray = ls at hl ⊢
  exact bm_X10_isFull this hk_this r hr hx hb hml hown hts hA hK hW hT hP hD hS hl (fun pc ls rz ws H locs he hz hd hW hT hP hD hS => by cases he; exact W.zret (v := r) hx hb hrt (z_nb hz) (fun t ht hW9 => ⟨⟨r, ws, rfl, ⟨rfl, hW, hT⟩, by rw [ht]; exact hP, va_K.moved hW9.alike hK, hD⟩, hS.F ht⟩) hS.2.2 hd)
set_option maxHeartbeats 4000000 in
set_option maxRecDepth 100000 in
theorem bm_X10_same {p : Program} {l : Launch} {e : Env} {s : State} {m : MethodId} {args : Array Value} {below : List Frame} {meth : Method} {c : Code} {Q : State → Prop} {A : Nat → Prop} {dC : Nat → ClassId} {dI : Nat → Nat → Nat} {kk : Nat → ClassId} {ad : Nat → Nat} {ws : va_W} {G : Nat → Nat → Int32} {P : Nat → Nat → Option Nat} {U : Nat → Nat → Int64} {V : Nat → Nat → Nat → Int32} {X : Nat → Nat → Nat → Int64} {O : Nat → Nat → Nat → Option Nat} {kd : Nat → Nat} {ln : Nat → Nat} {cnt : Nat} {H : Heap} {locs : List Loc} {ls : Array Slot} (p0 : Nat) (p1 : Int32) (p2 : Nat) (p3 : Int32) (p4 : Int32) (hk_p0 : kd p0 = 100) (hk_p2 : kd p2 = 100) (r : Int32) (hr : f_X10_same G P U V X O kd ln cnt p0 p1 p2 p3 p4 = some r) (hx : p.tables.exec = Jvm.exec) (hb : c.code = cX10_same) (hml : c.maxLocals = 6) (hown : s.vm.findClass RX10 = some m.cls) (hts : ∀ w ∈ vmX10_same, w.before args s = true) (hA : ∀ q : Nat, s.heap.size ≤ q → A q) (hK : va_K (dC, dI) vwCl (cT kk) s) (hW : LW ws ad kk kd ln G P U V X O) (hT : TYP kd P O (V 0) cnt) (hP : va_P (dC, dI) vwCl ws H) (hD : va_D A ws) (hS : va_S A s.heap H locs) (hl : lv_has ls 6 [(0, .ref (ad p0)), (1, .int p1), (2, .ref (ad p2)), (3, .int p3), (4, .int p4)])
    (K : ∀ (pc : Nat) (ls : Array Slot) (rz : Int32) (ws : va_W) (H : Heap) (locs : List Loc), some rz = some r → is01 rz → decode cX10_same pc = .ok (.ireturn, 1) → LW ws ad kk kd ln G P U V X O → TYP kd P O (V 0) cnt → va_P (dC, dI) vwCl ws H → va_D A ws → va_S A s.heap H locs → W p l e ({ frames := 2, cells := 0, slots := 0, locals := 60 } : Room) s m args below meth c H locs 0 0 Q (F0 m pc ls [.int rz])) : W p l e ({ frames := 2, cells := 0, slots := 0, locals := 60 } : Room) s m args below meth c H locs 0 0 Q (F0 m 0 ls []) := by
  unfold f_X10_same at hr
  refine lv_iload_n hx hb dX10_same_0 rfl (lv_at hl 1 rfl) ?_
  replace hr := jnS hr
  obtain ⟨j26, hj26, hr⟩ := hr
  have Jj26 : ∀ (ws : va_W) (H : Heap) (locs : List Loc) (ls : Array Slot), j26 () = some r → LW ws ad kk kd ln G P U V X O → TYP kd P O (V 0) cnt → va_P (dC, dI) vwCl ws H → va_D A ws → va_S A s.heap H locs → lv_has ls 6 [] → W p l e ({ frames := 2, cells := 0, slots := 0, locals := 60 } : Room) s m args below meth c H locs 0 0 Q (F0 m 26 ls []) := by
    intro ws H locs ls hr hW hT hP hD hS hl
    rw [hj26] at hr
    refine lv_iconst (v := 0) hx hb dX10_same_26 (by decide +kernel) ?_
    exact K 27 ls _ ws H _ hr (by decide) dX10_same_27 hW hT hP hD hS
  refine lv_if_lt (tgt := 26) hx hb dX10_same_1 (by decide) (fun c1 => ?_) (fun c1 => ?_)
  · replace hr := iteT c1 hr
    exact Jj26 ws H _ ls hr hW hT hP hD hS (lv_sub hl [] rfl)
  · replace hr := iteF c1 hr
    refine lv_iload_n hx hb dX10_same_4 rfl (lv_at hl 3 rfl) ?_
    refine lv_if_lt (tgt := 26) hx hb dX10_same_5 (by decide) (fun c5 => ?_) (fun c5 => ?_)
    · replace hr := iteT c5 hr
      exact Jj26 ws H _ ls hr hW hT hP hD hS (lv_sub hl [] rfl)
    · replace hr := iteF c5 hr
      refine lv_iload hx hb dX10_same_8 (lv_at hl 4 rfl) ?_
      refine lv_aload_n hx hb dX10_same_10 rfl (lv_at hl 0 rfl) ?_
      obtain ⟨i1, hi1⟩ := hW.v0 hk_p0
      refine va_alen (v := (Int32.ofNat (ln p0))) hx hb hK hP i1 0 hi1 rfl rfl dX10_same_11 ?_
      refine lv_iload_n hx hb dX10_same_12 rfl (lv_at hl 1 rfl) ?_
      refine lv_isub hx hb dX10_same_13 ?_
      refine lv_icmp_gt (tgt := 26) hx hb dX10_same_14 (by decide) (fun c14 => ?_) (fun c14 => ?_)
      · replace hr := iteT c14 hr
        exact Jj26 ws H _ ls hr hW hT hP hD hS (lv_sub hl [] rfl)
      · replace hr := iteF c14 hr
        refine lv_iload hx hb dX10_same_17 (lv_at hl 4 rfl) ?_
        refine lv_aload_n hx hb dX10_same_19 rfl (lv_at hl 2 rfl) ?_
        obtain ⟨i2, hi2⟩ := hW.v0 hk_p2
        refine va_alen (v := (Int32.ofNat (ln p2))) hx hb hK hP i2 0 hi2 rfl rfl dX10_same_20 ?_
        refine lv_iload_n hx hb dX10_same_21 rfl (lv_at hl 3 rfl) ?_
        refine lv_isub hx hb dX10_same_22 ?_
        refine lv_icmp_le (tgt := 28) hx hb dX10_same_23 (by decide) (fun c23 => ?_) (fun c23 => ?_)
        · replace hr := iteT c23 hr
          refine lv_iconst (v := 0) hx hb dX10_same_28 (by decide +kernel) ?_
          refine lv_istore (lv' := [(5, .int 0), (0, .ref (ad p0)), (1, .int p1), (2, .ref (ad p2)), (3, .int p3), (4, .int p4)]) hx hb dX10_same_29 hl (by decide) rfl (fun ls hl => ?_)
          have lp31 : ∀ (n31 : Nat), ∀ (y31_5 : Int32) (ws : va_W) (H : Heap) (locs : List Loc) (ls : Array Slot), L_X10_same_31 V ln p0 p1 p2 p3 p4 n31 y31_5 = some r → LW ws ad kk kd ln G P U V X O → TYP kd P O (V 0) cnt → va_P (dC, dI) vwCl ws H → va_D A ws → va_S A s.heap H locs → lv_has ls 6 [(0, .ref (ad p0)), (1, .int p1), (2, .ref (ad p2)), (3, .int p3), (4, .int p4), (5, .int y31_5)] → W p l e ({ frames := 2, cells := 0, slots := 0, locals := 60 } : Room) s m args below meth c H locs 0 0 Q (F0 m 31 ls []) := by
            intro n31
            induction n31 with
            | zero => intro y31_5 ws H locs ls hr hW hT hP hD hS hl; exact nomatch (show none = some r from hr)
            | succ n31 ih31 =>
              intro y31_5 ws H locs ls hr hW hT hP hD hS hl
              replace hr : B_X10_same_31 V ln p0 p1 p2 p3 p4 (L_X10_same_31 V ln p0 p1 p2 p3 p4 n31) y31_5 = some r := hr
              unfold B_X10_same_31 at hr
              refine lv_iload hx hb dX10_same_31 (lv_at hl 5 rfl) ?_
              refine lv_iload hx hb dX10_same_33 (lv_at hl 4 rfl) ?_
              refine lv_icmp_ge (tgt := 61) hx hb dX10_same_35 (by decide) (fun c35 => ?_) (fun c35 => ?_)
              · replace hr := iteT c35 hr
                refine lv_iconst (v := 1) hx hb dX10_same_61 (by decide +kernel) ?_
                exact K 62 ls _ ws H _ hr (by decide) dX10_same_62 hW hT hP hD hS
              · replace hr := iteF c35 hr
                refine lv_aload_n hx hb dX10_same_38 rfl (lv_at hl 0 rfl) ?_
                refine lv_iload_n hx hb dX10_same_39 rfl (lv_at hl 1 rfl) ?_
                refine lv_iload hx hb dX10_same_40 (lv_at hl 5 rfl) ?_
                refine lv_iadd hx hb dX10_same_42 ?_
                obtain ⟨i3, hi3⟩ := hW.v0 hk_p0
                replace hr := iteS hr
                obtain ⟨hi43, hr⟩ := hr
                refine va_bald (f := ((V 0) p0)) hx hb hK hP i3 0 hi3 rfl (inbV hi43) dX10_same_43 ?_
                refine lv_aload_n hx hb dX10_same_44 rfl (lv_at hl 2 rfl) ?_
                refine lv_iload_n hx hb dX10_same_45 rfl (lv_at hl 3 rfl) ?_
                refine lv_iload hx hb dX10_same_46 (lv_at hl 5 rfl) ?_
                refine lv_iadd hx hb dX10_same_48 ?_
                obtain ⟨i4, hi4⟩ := hW.v0 hk_p2
                replace hr := iteS hr
                obtain ⟨hi49, hr⟩ := hr
                refine va_bald (f := ((V 0) p2)) hx hb hK hP i4 0 hi4 rfl (inbV hi49) dX10_same_49 ?_
                refine lv_icmp_eq (tgt := 55) hx hb dX10_same_50 (by decide) (fun c50 => ?_) (fun c50 => ?_)
                · replace hr := iteT c50 hr
                  refine lv_iinc (v := (y31_5 + 1)) (lv' := [(5, .int (y31_5 + 1)), (0, .ref (ad p0)), (1, .int p1), (2, .ref (ad p2)), (3, .int p3), (4, .int p4)]) hx hb dX10_same_55 hl (k := 5) rfl rfl (by decide) rfl (fun ls hl => ?_)
                  refine lv_goto (tgt := 31) hx hb dX10_same_58 (by decide) ?_
                  exact ih31 (y31_5 + 1) ws H _ ls hr hW hT hP hD hS (lv_sub hl [1, 2, 3, 4, 5, 0] rfl)
                · replace hr := iteF c50 hr
                  refine lv_iconst (v := 0) hx hb dX10_same_53 (by decide +kernel) ?_
                  exact K 54 ls _ ws H _ hr (by decide) dX10_same_54 hW hT hP hD hS
          exact lp31 NN 0 ws H _ ls hr hW hT hP hD hS (lv_sub hl [1, 2, 3, 4, 5, 0] rfl)
        · replace hr := iteF c23 hr
          exact Jj26 ws H _ ls hr hW hT hP hD hS (lv_sub hl [] rfl)
set_option maxHeartbeats 4000000 in
set_option maxRecDepth 100000 in
theorem m_X10_same (l : Launch) (dC : Nat → ClassId) (dI : Nat → Nat → Nat) (kk : Nat → ClassId) (ad : Nat → Nat) (sz : Nat) (ws : va_W) (G : Nat → Nat → Int32) (P : Nat → Nat → Option Nat) (U : Nat → Nat → Int64) (V : Nat → Nat → Nat → Int32) (X : Nat → Nat → Nat → Int64) (O : Nat → Nat → Nat → Option Nat) (kd : Nat → Nat) (ln : Nat → Nat) (cnt : Nat) (p0 : Nat) (p1 : Int32) (p2 : Nat) (p3 : Int32) (p4 : Int32) (hk_p0 : kd p0 = 100) (hk_p2 : kd p2 = 100) (hW : LW ws ad kk kd ln G P U V X O) (hT : TYP kd P O (V 0) cnt) (r : Int32) (hr : f_X10_same G P U V X O kd ln cnt p0 p1 p2 p3 p4 = some r) : Met l yX10_same vmX10_same ({ frames := 2, cells := 0, slots := 0, locals := 60 } : Room) (va_Pc [.ref (ad p0), .int p1, .ref (ad p2), .int p3, .int p4] (fun U => U.heap.size = sz ∧ va_P (dC, dI) vwCl ws U.heap ∧ va_K (dC, dI) vwCl (cT kk) U ∧ va_D (fun _ => True) ws)) (va_Qi (fun (rz : Int32) (w : va_W) => rz = r ∧ LW w ad kk kd ln G P U V X O ∧ TYP kd P O (V 0) cnt) (fun w t => va_P (dC, dI) vwCl w t.heap ∧ va_K (dC, dI) vwCl (cT kk) t ∧ va_D (va_A ws sz) w) (va_A ws sz)) 0 0 (va_A ws sz) := by
  refine Met.ofW (cc := cX10_same) (maxL := 6) (ret := (some .boolean)) (by decide) rfl ?_
  intro p e s m args below meth c s₁ B hml hv
  obtain ⟨rfl, hsz, hP, hK, hD0⟩ := hv
  have hx := B.exec
  have hb := B.bytes
  have hrt := B.returns
  have hts := atoms_spec (ws := vmX10_same) B.pre
  have hown : s.vm.findClass RX10 = some m.cls := findClass_of_methodNamed B.named
  subst hsz
  have hD := hD0.self (sz := s.heap.size)
  generalize hAe : va_A ws s.heap.size = A at hD ⊢
  have hA : ∀ q : Nat, s.heap.size ≤ q → A q := fun q h => by rw [← hAe]; exact Or.inr h
  have hS : va_S A s.heap s.heap [] := va_S.rf
  have hl := lv_entry ([.ref (ad p0), .int p1, .ref (ad p2), .int p3, .int p4]) (n := 6) (Nat.le_of_ble_eq_true rfl)
  rw [lg_entry_eq]
  generalize (lg_sl ([.ref (ad p0), .int p1, .ref (ad p2), .int p3, .int p4]) ++ List.replicate (6 - (lg_sl ([.ref (ad p0), .int p1, .ref (ad p2), .int p3, .int p4])).length) Slot.unset).toArray = ls at hl ⊢
  exact bm_X10_same p0 p1 p2 p3 p4 hk_p0 hk_p2 r hr hx hb hml hown hts hA hK hW hT hP hD hS hl (fun pc ls rz ws H locs he hz hd hW hT hP hD hS => by cases he; exact W.zret (v := r) hx hb hrt (z_nb hz) (fun t ht hW9 => ⟨⟨r, ws, rfl, ⟨rfl, hW, hT⟩, by rw [ht]; exact hP, va_K.moved hW9.alike hK, hD⟩, hS.F ht⟩) hS.2.2 hd)
set_option maxHeartbeats 4000000 in
set_option maxRecDepth 100000 in
theorem bm_X10_add {p : Program} {l : Launch} {e : Env} {s : State} {m : MethodId} {args : Array Value} {below : List Frame} {meth : Method} {c : Code} {Q : State → Prop} {A : Nat → Prop} {dC : Nat → ClassId} {dI : Nat → Nat → Nat} {kk : Nat → ClassId} {ad : Nat → Nat} {ws : va_W} {G : Nat → Nat → Int32} {P : Nat → Nat → Option Nat} {U : Nat → Nat → Int64} {V : Nat → Nat → Nat → Int32} {X : Nat → Nat → Nat → Int64} {O : Nat → Nat → Nat → Option Nat} {kd : Nat → Nat} {ln : Nat → Nat} {cnt : Nat} {H : Heap} {locs : List Loc} {ls : Array Slot} (this : Nat) (p0 : Nat) (p1 : Int32) (p2 : Int32) (hk_this : kd this = 11) (hk_p0 : kd p0 = 100) (c_G203 : Nat → Int32) (c_V0 : Nat → Nat → Int32) (c_V1 : Nat → Nat → Int32) (hr : f_X10_add G P U V X O kd ln cnt this p0 p1 p2 = some (c_G203, c_V0, c_V1)) (hx : p.tables.exec = Jvm.exec) (hb : c.code = cX10_add) (hml : c.maxLocals = 4) (hown : s.vm.findClass RX10 = some m.cls) (hts : ∀ w ∈ vmX10_add, w.before args s = true) (hA : ∀ q : Nat, s.heap.size ≤ q → A q) (hK : va_K (dC, dI) vwCl (cT kk) s) (hW : LW ws ad kk kd ln G P U V X O) (hT : TYP kd P O (V 0) cnt) (hP : va_P (dC, dI) vwCl ws H) (hD : va_D A ws) (hS : va_S A s.heap H locs) (hl : lv_has ls 4 [(0, .ref (ad this)), (1, .ref (ad p0)), (2, .int p1), (3, .int p2)])
    (K : ∀ (pc : Nat) (ls : Array Slot) (c_G203z : Nat → Int32) (c_V0z : Nat → Nat → Int32) (c_V1z : Nat → Nat → Int32) (ws : va_W) (H : Heap) (locs : List Loc), some (c_G203z, c_V0z, c_V1z) = some (c_G203, c_V0, c_V1) → decode cX10_add pc = .ok (.return_, 1) → LW ws ad kk kd ln (va_up G 203 c_G203z) P U (va_up (va_up V 0 c_V0z) 1 c_V1z) X O → TYP kd P O c_V0z cnt → va_P (dC, dI) vwCl ws H → va_D A ws → va_S A s.heap H locs → W p l e ({ frames := 3, cells := 0, slots := 0, locals := 120 } : Room) s m args below meth c H locs 0 0 Q (F0 m pc ls [])) : W p l e ({ frames := 3, cells := 0, slots := 0, locals := 120 } : Room) s m args below meth c H locs 0 0 Q (F0 m 0 ls []) := by
  unfold f_X10_add at hr
  refine lv_aload_n hx hb dX10_add_0 rfl (lv_at hl 0 rfl) ?_
  replace hr := b1S hr
  obtain ⟨r1z, hc1, hr⟩ := hr
  have hFc := fr_all hD hS hA
  obtain ⟨i1, hi1⟩ := hW.o10 hk_this
  refine va_calli (va_runV (As := []) (rest := []) ⟨hx, hb, hml, hown, hts⟩ (m_X10_isFull l dC dI kk ad H.size ws G P U V X O kd ln cnt this hk_this hW hT r1z hc1) (cwV 0 hts gc_RX10_X10_isFull_26 rfl rfl rfl (by decide +kernel) ⟨Nat.le_of_ble_eq_true rfl, Nat.le_of_ble_eq_true rfl⟩) ⟨fun a U g mk q => by obtain ⟨q0, q1, qP, qK, qD⟩ := q; exact ⟨q0, q1, qP, va_K.moved (u := U) (U := U.calling g mk a) (Vm.Alike.refl U.vm) qK, qD⟩, va_recv hK hP (ci := 10) (q0 := i1) rfl hi1, fun U hU hW => ⟨rfl, by rw [hU], by rw [hU]; exact hP, va_K.moved hW.alike hK, hD.weaken (fun _ _ _ _ => trivial)⟩⟩ rfl rfl hl.1 rfl (lv_room (Nat.le_of_ble_eq_true rfl)) dX10_add_1 ⟨Nat.le_of_ble_eq_true rfl, Nat.le_of_ble_eq_true rfl⟩) hS (fun q _ h => hFc q h) hFc (fun r1 w2 t H1 locs ht hvm hw hB hz1 hk1 hS => ?_)
  obtain ⟨hw0, hW, hT⟩ := hw
  replace hw0 : r1 = r1z := hw0
  subst hw0
  obtain ⟨hP1, hK1, hD1⟩ := hB
  rw [ht] at hP1
  obtain ⟨hP, hD⟩ := jn_all (w1 := w2) hFc hP1 hD1
  replace hP : va_P (dC, dI) vwCl w2 H1 := hP
  replace hD : va_D A w2 := hD
  clear hFc hP1 hK1 hD1 hk1 hz1 ht hvm
  generalize H1 = H at hP hS ⊢
  replace hr := jnS hr
  obtain ⟨j31, hj31, hr⟩ := hr
  have Jj31 : ∀ (ws : va_W) (H : Heap) (locs : List Loc) (ls : Array Slot), j31 () = some (c_G203, c_V0, c_V1) → LW ws ad kk kd ln G P U V X O → TYP kd P O (V 0) cnt → va_P (dC, dI) vwCl ws H → va_D A ws → va_S A s.heap H locs → lv_has ls 4 [] → W p l e ({ frames := 3, cells := 0, slots := 0, locals := 120 } : Room) s m args below meth c H locs 0 0 Q (F0 m 31 ls []) := by
    intro ws H locs ls hr hW hT hP hD hS hl
    rw [hj31] at hr
    have eG : G = (va_up G 203 (G 203)) := by
      funext k
      by_cases h203 : k = 203
      · subst h203; rfl
      · simp only [va_up, h203, if_false]
    rw [eG] at hW
    clear eG
    have eV : V = (va_up (va_up V 0 (V 0)) 1 (V 1)) := by
      funext k
      by_cases h0 : k = 0
      · subst h0; rfl
      by_cases h1 : k = 1
      · subst h1; rfl
      · simp only [va_up, h0, h1, if_false]
    rw [eV] at hW
    clear eV
    exact K 31 ls _ _ _ ws H _ hr dX10_add_31 hW hT hP hD hS
  refine lv_if_ne (tgt := 31) hx hb dX10_add_4 (by decide) (fun c4 => ?_) (fun c4 => ?_)
  · replace hr := iteF c4 hr
    exact Jj31 w2 H _ ls hr hW hT hP hD hS (lv_sub hl [] rfl)
  · replace hr := iteT c4 hr
    refine lv_iload_n hx hb dX10_add_7 rfl (lv_at hl 3 rfl) ?_
    refine lv_if_lt (tgt := 31) hx hb dX10_add_8 (by decide) (fun c8 => ?_) (fun c8 => ?_)
    · replace hr := iteT c8 hr
      exact Jj31 w2 H _ ls hr hW hT hP hD hS (lv_sub hl [] rfl)
    · replace hr := iteF c8 hr
      refine lv_iload_n hx hb dX10_add_11 rfl (lv_at hl 3 rfl) ?_
      refine lv_aload_n hx hb dX10_add_12 rfl (lv_at hl 0 rfl) ?_
      obtain ⟨i3, hi3⟩ := hW.o10 hk_this
      refine va_get (D := (dC, dI)) (ci := 10) (v := .int ((G 200) this)) (C := RX10) (T := TX10) (N := 4) hx hb hts inX10 hown hK hP i3 hi3 rfl 0 (by decide) (hts (.fieldLink RX10 15 "SpellTurner$WordRow" "width" "I") ic_13) (fun _ h9 => h9) rfl dX10_add_13 ?_
      refine lv_icmp_gt (tgt := 31) hx hb dX10_add_16 (by decide) (fun c16 => ?_) (fun c16 => ?_)
      · replace hr := iteT c16 hr
        exact Jj31 w2 H _ ls hr hW hT hP hD hS (lv_sub hl [] rfl)
      · replace hr := iteF c16 hr
        refine lv_iload_n hx hb dX10_add_19 rfl (lv_at hl 2 rfl) ?_
        refine lv_if_lt (tgt := 31) hx hb dX10_add_20 (by decide) (fun c20 => ?_) (fun c20 => ?_)
        · replace hr := iteT c20 hr
          exact Jj31 w2 H _ ls hr hW hT hP hD hS (lv_sub hl [] rfl)
        · replace hr := iteF c20 hr
          refine lv_iload_n hx hb dX10_add_23 rfl (lv_at hl 3 rfl) ?_
          refine lv_aload_n hx hb dX10_add_24 rfl (lv_at hl 1 rfl) ?_
          obtain ⟨i4, hi4⟩ := hW.v0 hk_p0
          refine va_alen (v := (Int32.ofNat (ln p0))) hx hb hK hP i4 0 hi4 rfl rfl dX10_add_25 ?_
          refine lv_iload_n hx hb dX10_add_26 rfl (lv_at hl 2 rfl) ?_
          refine lv_isub hx hb dX10_add_27 ?_
          refine lv_icmp_le (tgt := 32) hx hb dX10_add_28 (by decide) (fun c28 => ?_) (fun c28 => ?_)
          · replace hr := iteT c28 hr
            refine lv_aload_n hx hb dX10_add_32 rfl (lv_at hl 1 rfl) ?_
            refine lv_iload_n hx hb dX10_add_33 rfl (lv_at hl 2 rfl) ?_
            refine lv_aload_n hx hb dX10_add_34 rfl (lv_at hl 0 rfl) ?_
            obtain ⟨i5, hi5⟩ := hW.o10 hk_this
            replace hr := nnS hr
            obtain ⟨a35, hn35, hr⟩ := hr
            have hk_a35 : kd a35 = 100 := hT.1 201 _ _ hn35
            refine va_get (D := (dC, dI)) (ci := 10) (v := .ref (ad a35)) (C := RX10) (T := TX10) (N := 4) hx hb hts inX10 hown hK hP i5 hi5 rfl 1 (by decide) (hts (.fieldLink RX10 18 "SpellTurner$WordRow" "letters" "[B") ic_14) (fun _ h9 => h9) (congrArg (fun o => some (va_re ad o)) hn35) dX10_add_35 ?_
            refine lv_aload_n hx hb dX10_add_38 rfl (lv_at hl 0 rfl) ?_
            obtain ⟨i6, hi6⟩ := hW.o10 hk_this
            refine va_get (D := (dC, dI)) (ci := 10) (v := .int ((G 203) this)) (C := RX10) (T := TX10) (N := 4) hx hb hts inX10 hown hK hP i6 hi6 rfl 3 (by decide) (hts (.fieldLink RX10 9 "SpellTurner$WordRow" "count" "I") ic_5) (fun _ h9 => h9) rfl dX10_add_39 ?_
            refine lv_aload_n hx hb dX10_add_42 rfl (lv_at hl 0 rfl) ?_
            obtain ⟨i7, hi7⟩ := hW.o10 hk_this
            refine va_get (D := (dC, dI)) (ci := 10) (v := .int ((G 200) this)) (C := RX10) (T := TX10) (N := 4) hx hb hts inX10 hown hK hP i7 hi7 rfl 0 (by decide) (hts (.fieldLink RX10 15 "SpellTurner$WordRow" "width" "I") ic_13) (fun _ h9 => h9) rfl dX10_add_43 ?_
            refine lv_imul hx hb dX10_add_46 ?_
            refine lv_iload_n hx hb dX10_add_47 rfl (lv_at hl 3 rfl) ?_
            replace hr := iteS hr
            obtain ⟨hi48, hr⟩ := hr
            obtain ⟨i8, hi8⟩ := hW.v0 hk_p0
            obtain ⟨i9, hi9⟩ := hW.v0 hk_a35
            refine va_copyi (f := ((V 0) p0)) (g := ((V 0) a35)) hx hb (by rw [hml]; exact hl.1.symm) hown (hts (.methodLink RX10 30 arraycopyName) ic_15) (hts (.native arraycopyName) ic_16) (hts (.static arraycopyName) ic_17) (hts (.initialized "java/lang/System") ic_18) hK hP hD hS i8 i9 0 0 hi8 hi9 rfl rfl rfl (cpbS hi48).1 (cpbS hi48).2.1 (cpbS hi48).2.2.1 (cpbS hi48).2.2.2.1 (cpbS hi48).2.2.2.2 (fun _ _ => hT.2.2.1 _ _) (Nat.le_of_ble_eq_true rfl) (Nat.le_of_ble_eq_true rfl) dX10_add_48 (fun H locs hP2 hD2 hS => ?_)
            obtain ⟨m48, w10, em48, hP, hD, hW⟩ : ∃ (z : Nat → Nat → Int32) (w : va_W), z = (va_up (V 0) a35 (va_cpy ((V 0) p0) ((V 0) a35) (Int32.toNatClampNeg p1) (Int32.toNatClampNeg (((G 203) this) * ((G 200) this))) (Int32.toNatClampNeg p2))) ∧ va_P (dC, dI) vwCl w H ∧ va_D A w ∧ LW w ad kk kd ln G P U (va_up V 0 z) X O := ⟨_, _, rfl, hP2, hD2, hW.setV hD hi9 (by rw [hk_a35]; decide) 0 (va_cpy ((V 0) p0) ((V 0) a35) (Int32.toNatClampNeg p1) (Int32.toNatClampNeg (((G 203) this) * ((G 200) this))) (Int32.toNatClampNeg p2)) (by rw [hk_a35]; rfl)⟩
            replace hT : TYP kd P O m48 cnt := by rw [em48]; exact hT.setB a35 _ (fit_cpy (hT.2.2.1 p0) (hT.2.2.1 a35) _ _ _)
            replace hr := vlS hr m48 em48
            clear em48
            refine lv_aload_n hx hb dX10_add_51 rfl (lv_at hl 0 rfl) ?_
            obtain ⟨i11, hi11⟩ := hW.o10 hk_this
            replace hr := nnS hr
            obtain ⟨a52, hn52, hr⟩ := hr
            have hk_a52 : kd a52 = 101 := hT.1 202 _ _ hn52
            refine va_get (D := (dC, dI)) (ci := 10) (v := .ref (ad a52)) (C := RX10) (T := TX10) (N := 4) hx hb hts inX10 hown hK hP i11 hi11 rfl 2 (by decide) (hts (.fieldLink RX10 22 "SpellTurner$WordRow" "lengths" "[I") ic_6) (fun _ h9 => h9) (congrArg (fun o => some (va_re ad o)) hn52) dX10_add_52 ?_
            refine lv_aload_n hx hb dX10_add_55 rfl (lv_at hl 0 rfl) ?_
            obtain ⟨i12, hi12⟩ := hW.o10 hk_this
            refine va_get (D := (dC, dI)) (ci := 10) (v := .int ((G 203) this)) (C := RX10) (T := TX10) (N := 4) hx hb hts inX10 hown hK hP i12 hi12 rfl 3 (by decide) (hts (.fieldLink RX10 9 "SpellTurner$WordRow" "count" "I") ic_5) (fun _ h9 => h9) rfl dX10_add_56 ?_
            refine lv_iload_n hx hb dX10_add_59 rfl (lv_at hl 3 rfl) ?_
            obtain ⟨i13, hi13⟩ := hW.v1 hk_a52
            replace hr := iteS hr
            obtain ⟨hi60, hr⟩ := hr
            refine va_iast (f := ((V 1) a52)) hx hb hK hP hD hS i13 1 hi13 rfl (inbV hi60) dX10_add_60 (fun H locs hP2 hD2 hS => ?_)
            obtain ⟨m60, w14, em60, hP, hD, hW⟩ : ∃ (z : Nat → Nat → Int32) (w : va_W), z = (va_up (V 1) a52 (upd ((V 1) a52) (Int32.toNatClampNeg ((G 203) this)) p2)) ∧ va_P (dC, dI) vwCl w H ∧ va_D A w ∧ LW w ad kk kd ln G P U (va_up (va_up V 0 m48) 1 z) X O := ⟨_, _, rfl, hP2, hD2, hW.setV hD hi13 (by rw [hk_a52]; decide) 1 (upd ((V 1) a52) (Int32.toNatClampNeg ((G 203) this)) p2) (by rw [hk_a52]; rfl)⟩
            replace hr := vlS hr m60 em60
            clear em60
            refine lv_aload_n hx hb dX10_add_61 rfl (lv_at hl 0 rfl) ?_
            refine lv_dup hx hb dX10_add_62 rfl ?_
            obtain ⟨i15, hi15⟩ := hW.o10 hk_this
            refine va_get (D := (dC, dI)) (ci := 10) (v := .int ((G 203) this)) (C := RX10) (T := TX10) (N := 4) hx hb hts inX10 hown hK hP i15 hi15 rfl 3 (by decide) (hts (.fieldLink RX10 9 "SpellTurner$WordRow" "count" "I") ic_5) (fun _ h9 => h9) rfl dX10_add_63 ?_
            refine lv_iconst (v := 1) hx hb dX10_add_66 (by decide +kernel) ?_
            refine lv_iadd hx hb dX10_add_67 ?_
            refine lv_topi (fun x68 ex68 => ?_)
            replace hr := vlS hr x68 ex68
            clear ex68
            obtain ⟨i16, hi16⟩ := hW.o10 hk_this
            refine va_put (D := (dC, dI)) (ci := 10) (v := .int x68) (ty := .int) (C := RX10) (T := TX10) (N := 4) hx hb hts inX10 tyX10 tyX10_ok nmX10 hown hK hP hD hS i16 hi16 rfl 3 (by decide) (hts (.fieldLink RX10 9 "SpellTurner$WordRow" "count" "I") ic_5) (fun _ h9 => h9) rfl (by decide +kernel) rfl rfl (Nat.le_of_ble_eq_true rfl) dX10_add_68 (fun H locs hP2 hD2 hS => ?_)
            obtain ⟨m68, w17, em68, hP, hD, hW⟩ : ∃ (z : Nat → Int32) (w : va_W), z = (va_up (G 203) this x68) ∧ va_P (dC, dI) vwCl w H ∧ va_D A w ∧ LW w ad kk kd ln (va_up G 203 z) P U (va_up (va_up V 0 m48) 1 m60) X O := ⟨_, _, rfl, hP2, hD2, hW.setG hD hi16 (by rw [hk_this]; decide) 203 x68 (by rw [hk_this]; rfl)⟩
            replace hr := vlS hr m68 em68
            clear em68
            exact K 71 ls _ _ _ w17 H _ hr dX10_add_71 hW hT hP hD hS
          · replace hr := iteF c28 hr
            exact Jj31 w2 H _ ls hr hW hT hP hD hS (lv_sub hl [] rfl)
set_option maxHeartbeats 4000000 in
set_option maxRecDepth 100000 in
theorem m_X10_add (l : Launch) (dC : Nat → ClassId) (dI : Nat → Nat → Nat) (kk : Nat → ClassId) (ad : Nat → Nat) (sz : Nat) (ws : va_W) (G : Nat → Nat → Int32) (P : Nat → Nat → Option Nat) (U : Nat → Nat → Int64) (V : Nat → Nat → Nat → Int32) (X : Nat → Nat → Nat → Int64) (O : Nat → Nat → Nat → Option Nat) (kd : Nat → Nat) (ln : Nat → Nat) (cnt : Nat) (this : Nat) (p0 : Nat) (p1 : Int32) (p2 : Int32) (hk_this : kd this = 11) (hk_p0 : kd p0 = 100) (hW : LW ws ad kk kd ln G P U V X O) (hT : TYP kd P O (V 0) cnt) (c_G203 : Nat → Int32) (c_V0 : Nat → Nat → Int32) (c_V1 : Nat → Nat → Int32) (hr : f_X10_add G P U V X O kd ln cnt this p0 p1 p2 = some (c_G203, c_V0, c_V1)) : Met l yX10_add vmX10_add ({ frames := 3, cells := 0, slots := 0, locals := 120 } : Room) (va_Pc [.ref (ad this), .ref (ad p0), .int p1, .int p2] (fun U => U.heap.size = sz ∧ va_P (dC, dI) vwCl ws U.heap ∧ va_K (dC, dI) vwCl (cT kk) U ∧ va_D (fun _ => True) ws)) (va_Qv (fun w => LW w ad kk kd ln (va_up G 203 c_G203) P U (va_up (va_up V 0 c_V0) 1 c_V1) X O ∧ TYP kd P O c_V0 cnt) (fun w t => va_P (dC, dI) vwCl w t.heap ∧ va_K (dC, dI) vwCl (cT kk) t ∧ va_D (va_A ws sz) w) (va_A ws sz)) 0 0 (va_A ws sz) := by
  refine Met.ofW (cc := cX10_add) (maxL := 4) (ret := none) (by decide) rfl ?_
  intro p e s m args below meth c s₁ B hml hv
  obtain ⟨rfl, hsz, hP, hK, hD0⟩ := hv
  have hx := B.exec
  have hb := B.bytes
  have hrt := B.returns
  have hts := atoms_spec (ws := vmX10_add) B.pre
  have hown : s.vm.findClass RX10 = some m.cls := findClass_of_methodNamed B.named
  subst hsz
  have hD := hD0.self (sz := s.heap.size)
  generalize hAe : va_A ws s.heap.size = A at hD ⊢
  have hA : ∀ q : Nat, s.heap.size ≤ q → A q := fun q h => by rw [← hAe]; exact Or.inr h
  have hS : va_S A s.heap s.heap [] := va_S.rf
  have hl := lv_entry ([.ref (ad this), .ref (ad p0), .int p1, .int p2]) (n := 4) (Nat.le_of_ble_eq_true rfl)
  rw [lg_entry_eq]
  generalize (lg_sl ([.ref (ad this), .ref (ad p0), .int p1, .int p2]) ++ List.replicate (4 - (lg_sl ([.ref (ad this), .ref (ad p0), .int p1, .int p2])).length) Slot.unset).toArray = ls at hl ⊢
  exact bm_X10_add this p0 p1 p2 hk_this hk_p0 c_G203 c_V0 c_V1 hr hx hb hml hown hts hA hK hW hT hP hD hS hl (fun pc ls c_G203z c_V0z c_V1z ws H locs he hd hW hT hP hD hS => by cases he; exact W.vret hx hb hrt (fun t ht hW9 => ⟨⟨ws, rfl, ⟨hW, hT⟩, by rw [ht]; exact hP, va_K.moved hW9.alike hK, hD⟩, hS.F ht⟩) hS.2.2 hd)
set_option maxHeartbeats 4000000 in
set_option maxRecDepth 100000 in
theorem bm_X10_find {p : Program} {l : Launch} {e : Env} {s : State} {m : MethodId} {args : Array Value} {below : List Frame} {meth : Method} {c : Code} {Q : State → Prop} {A : Nat → Prop} {dC : Nat → ClassId} {dI : Nat → Nat → Nat} {kk : Nat → ClassId} {ad : Nat → Nat} {ws : va_W} {G : Nat → Nat → Int32} {P : Nat → Nat → Option Nat} {U : Nat → Nat → Int64} {V : Nat → Nat → Nat → Int32} {X : Nat → Nat → Nat → Int64} {O : Nat → Nat → Nat → Option Nat} {kd : Nat → Nat} {ln : Nat → Nat} {cnt : Nat} {H : Heap} {locs : List Loc} {ls : Array Slot} (this : Nat) (p0 : Nat) (p1 : Int32) (p2 : Int32) (hk_this : kd this = 11) (hk_p0 : kd p0 = 100) (r : Int32) (hr : f_X10_find G P U V X O kd ln cnt this p0 p1 p2 = some r) (hx : p.tables.exec = Jvm.exec) (hb : c.code = cX10_find) (hml : c.maxLocals = 5) (hown : s.vm.findClass RX10 = some m.cls) (hts : ∀ w ∈ vmX10_find, w.before args s = true) (hA : ∀ q : Nat, s.heap.size ≤ q → A q) (hK : va_K (dC, dI) vwCl (cT kk) s) (hW : LW ws ad kk kd ln G P U V X O) (hT : TYP kd P O (V 0) cnt) (hP : va_P (dC, dI) vwCl ws H) (hD : va_D A ws) (hS : va_S A s.heap H locs) (hl : lv_has ls 5 [(0, .ref (ad this)), (1, .ref (ad p0)), (2, .int p1), (3, .int p2)])
    (K : ∀ (pc : Nat) (ls : Array Slot) (rz : Int32) (ws : va_W) (H : Heap) (locs : List Loc), some rz = some r → decode cX10_find pc = .ok (.ireturn, 1) → LW ws ad kk kd ln G P U V X O → TYP kd P O (V 0) cnt → va_P (dC, dI) vwCl ws H → va_D A ws → va_S A s.heap H locs → W p l e ({ frames := 3, cells := 0, slots := 0, locals := 85 } : Room) s m args below meth c H locs 0 0 Q (F0 m pc ls [.int rz])) : W p l e ({ frames := 3, cells := 0, slots := 0, locals := 85 } : Room) s m args below meth c H locs 0 0 Q (F0 m 0 ls []) := by
  unfold f_X10_find at hr
  refine lv_iconst (v := 0) hx hb dX10_find_0 (by decide +kernel) ?_
  refine lv_istore (lv' := [(4, .int 0), (0, .ref (ad this)), (1, .ref (ad p0)), (2, .int p1), (3, .int p2)]) hx hb dX10_find_1 hl (by decide) rfl (fun ls hl => ?_)
  have lp3 : ∀ (n3 : Nat), ∀ (y3_4 : Int32) (ws : va_W) (H : Heap) (locs : List Loc) (ls : Array Slot), L_X10_find_3 G P U V X O kd ln cnt this p0 p1 p2 n3 y3_4 = some r → LW ws ad kk kd ln G P U V X O → TYP kd P O (V 0) cnt → va_P (dC, dI) vwCl ws H → va_D A ws → va_S A s.heap H locs → lv_has ls 5 [(0, .ref (ad this)), (1, .ref (ad p0)), (2, .int p1), (3, .int p2), (4, .int y3_4)] → W p l e ({ frames := 3, cells := 0, slots := 0, locals := 85 } : Room) s m args below meth c H locs 0 0 Q (F0 m 3 ls []) := by
    intro n3
    induction n3 with
    | zero => intro y3_4 ws H locs ls hr hW hT hP hD hS hl; exact nomatch (show none = some r from hr)
    | succ n3 ih3 =>
      intro y3_4 ws H locs ls hr hW hT hP hD hS hl
      replace hr : B_X10_find_3 G P U V X O kd ln cnt this p0 p1 p2 (L_X10_find_3 G P U V X O kd ln cnt this p0 p1 p2 n3) y3_4 = some r := hr
      unfold B_X10_find_3 at hr
      refine lv_iload hx hb dX10_find_3 (lv_at hl 4 rfl) ?_
      refine lv_aload_n hx hb dX10_find_5 rfl (lv_at hl 0 rfl) ?_
      obtain ⟨i1, hi1⟩ := hW.o10 hk_this
      refine va_get (D := (dC, dI)) (ci := 10) (v := .int ((G 203) this)) (C := RX10) (T := TX10) (N := 4) hx hb hts inX10 hown hK hP i1 hi1 rfl 3 (by decide) (hts (.fieldLink RX10 9 "SpellTurner$WordRow" "count" "I") ic_5) (fun _ h9 => h9) rfl dX10_find_6 ?_
      refine lv_icmp_ge (tgt := 52) hx hb dX10_find_9 (by decide) (fun c9 => ?_) (fun c9 => ?_)
      · replace hr := iteT c9 hr
        refine lv_iconst (v := (-1)) hx hb dX10_find_52 (by decide +kernel) ?_
        exact K 53 ls _ ws H _ hr dX10_find_53 hW hT hP hD hS
      · replace hr := iteF c9 hr
        refine lv_aload_n hx hb dX10_find_12 rfl (lv_at hl 0 rfl) ?_
        obtain ⟨i2, hi2⟩ := hW.o10 hk_this
        replace hr := nnS hr
        obtain ⟨a13, hn13, hr⟩ := hr
        have hk_a13 : kd a13 = 101 := hT.1 202 _ _ hn13
        refine va_get (D := (dC, dI)) (ci := 10) (v := .ref (ad a13)) (C := RX10) (T := TX10) (N := 4) hx hb hts inX10 hown hK hP i2 hi2 rfl 2 (by decide) (hts (.fieldLink RX10 22 "SpellTurner$WordRow" "lengths" "[I") ic_6) (fun _ h9 => h9) (congrArg (fun o => some (va_re ad o)) hn13) dX10_find_13 ?_
        refine lv_iload hx hb dX10_find_16 (lv_at hl 4 rfl) ?_
        obtain ⟨i3, hi3⟩ := hW.v1 hk_a13
        replace hr := iteS hr
        obtain ⟨hi18, hr⟩ := hr
        refine va_iald (f := ((V 1) a13)) hx hb hK hP i3 1 hi3 rfl (inbV hi18) dX10_find_18 ?_
        refine lv_iload_n hx hb dX10_find_19 rfl (lv_at hl 3 rfl) ?_
        replace hr := jnS hr
        obtain ⟨j46, hj46, hr⟩ := hr
        have Jj46 : ∀ (ws : va_W) (H : Heap) (locs : List Loc) (ls : Array Slot), j46 () = some r → LW ws ad kk kd ln G P U V X O → TYP kd P O (V 0) cnt → va_P (dC, dI) vwCl ws H → va_D A ws → va_S A s.heap H locs → lv_has ls 5 [(0, .ref (ad this)), (1, .ref (ad p0)), (2, .int p1), (3, .int p2), (4, .int y3_4)] → W p l e ({ frames := 3, cells := 0, slots := 0, locals := 85 } : Room) s m args below meth c H locs 0 0 Q (F0 m 46 ls []) := by
          intro ws H locs ls hr hW hT hP hD hS hl
          rw [hj46] at hr
          refine lv_iinc (v := (y3_4 + 1)) (lv' := [(4, .int (y3_4 + 1)), (0, .ref (ad this)), (1, .ref (ad p0)), (2, .int p1), (3, .int p2)]) hx hb dX10_find_46 hl (k := 4) rfl rfl (by decide) rfl (fun ls hl => ?_)
          refine lv_goto (tgt := 3) hx hb dX10_find_49 (by decide) ?_
          exact ih3 (y3_4 + 1) ws H _ ls hr hW hT hP hD hS (lv_sub hl [1, 2, 3, 4, 0] rfl)
        refine lv_icmp_ne (tgt := 46) hx hb dX10_find_20 (by decide) (fun c20 => ?_) (fun c20 => ?_)
        · replace hr := iteF c20 hr
          exact Jj46 ws H _ ls hr hW hT hP hD hS (lv_sub hl [0, 1, 2, 3, 4] rfl)
        · replace hr := iteT c20 hr
          refine lv_aload_n hx hb dX10_find_23 rfl (lv_at hl 0 rfl) ?_
          obtain ⟨i4, hi4⟩ := hW.o10 hk_this
          replace hr := nnS hr
          obtain ⟨a24, hn24, hr⟩ := hr
          have hk_a24 : kd a24 = 100 := hT.1 201 _ _ hn24
          refine va_get (D := (dC, dI)) (ci := 10) (v := .ref (ad a24)) (C := RX10) (T := TX10) (N := 4) hx hb hts inX10 hown hK hP i4 hi4 rfl 1 (by decide) (hts (.fieldLink RX10 18 "SpellTurner$WordRow" "letters" "[B") ic_14) (fun _ h9 => h9) (congrArg (fun o => some (va_re ad o)) hn24) dX10_find_24 ?_
          refine lv_iload hx hb dX10_find_27 (lv_at hl 4 rfl) ?_
          refine lv_aload_n hx hb dX10_find_29 rfl (lv_at hl 0 rfl) ?_
          obtain ⟨i5, hi5⟩ := hW.o10 hk_this
          refine va_get (D := (dC, dI)) (ci := 10) (v := .int ((G 200) this)) (C := RX10) (T := TX10) (N := 4) hx hb hts inX10 hown hK hP i5 hi5 rfl 0 (by decide) (hts (.fieldLink RX10 15 "SpellTurner$WordRow" "width" "I") ic_13) (fun _ h9 => h9) rfl dX10_find_30 ?_
          refine lv_imul hx hb dX10_find_33 ?_
          refine lv_aload_n hx hb dX10_find_34 rfl (lv_at hl 1 rfl) ?_
          refine lv_iload_n hx hb dX10_find_35 rfl (lv_at hl 2 rfl) ?_
          refine lv_iload_n hx hb dX10_find_36 rfl (lv_at hl 3 rfl) ?_
          replace hr := b1S hr
          obtain ⟨r37z, hc37, hr⟩ := hr
          have hFc := fr_all hD hS hA
          refine va_calli (va_runS (As := [.ref (ad a24), .int (y3_4 * ((G 200) this)), .ref (ad p0), .int p1, .int p2]) (rest := []) ⟨hx, hb, hml, hown, hts⟩ (m_X10_same l dC dI kk ad H.size ws G P U V X O kd ln cnt a24 (y3_4 * ((G 200) this)) p0 p1 p2 hk_a24 hk_p0 hW hT r37z hc37) (va_cwS 5 hts gc_RX10_X10_same_44 rfl rfl rfl (by decide +kernel) ⟨Nat.le_of_ble_eq_true rfl, Nat.le_of_ble_eq_true rfl⟩) ⟨fun a U g mk q => by obtain ⟨q0, q1, qP, qK, qD⟩ := q; exact ⟨q0, q1, qP, va_K.moved (u := U) (U := U.calling g mk a) (Vm.Alike.refl U.vm) qK, qD⟩, fun U hU hW => ⟨rfl, by rw [hU], by rw [hU]; exact hP, va_K.moved hW.alike hK, hD.weaken (fun _ _ _ _ => trivial)⟩⟩ rfl rfl hl.1 rfl (lv_room (Nat.le_of_ble_eq_true rfl)) dX10_find_37 ⟨Nat.le_of_ble_eq_true rfl, Nat.le_of_ble_eq_true rfl⟩) hS (fun q _ h => hFc q h) hFc (fun r37 w6 t H1 locs ht hvm hw hB hz1 hk1 hS => ?_)
          obtain ⟨hw0, hW, hT⟩ := hw
          replace hw0 : r37 = r37z := hw0
          subst hw0
          obtain ⟨hP1, hK1, hD1⟩ := hB
          rw [ht] at hP1
          obtain ⟨hP, hD⟩ := jn_all (w1 := w6) hFc hP1 hD1
          replace hP : va_P (dC, dI) vwCl w6 H1 := hP
          replace hD : va_D A w6 := hD
          clear hFc hP1 hK1 hD1 hk1 hz1 ht hvm
          generalize H1 = H at hP hS ⊢
          refine lv_if_eq (tgt := 46) hx hb dX10_find_40 (by decide) (fun c40 => ?_) (fun c40 => ?_)
          · replace hr := iteT c40 hr
            exact Jj46 w6 H _ ls hr hW hT hP hD hS (lv_sub hl [0, 1, 2, 3, 4] rfl)
          · replace hr := iteF c40 hr
            refine lv_iload hx hb dX10_find_43 (lv_at hl 4 rfl) ?_
            exact K 45 ls _ w6 H _ hr dX10_find_45 hW hT hP hD hS
  exact lp3 NN 0 ws H _ ls hr hW hT hP hD hS (lv_sub hl [1, 2, 3, 4, 0] rfl)
set_option maxHeartbeats 4000000 in
set_option maxRecDepth 100000 in
theorem m_X10_find (l : Launch) (dC : Nat → ClassId) (dI : Nat → Nat → Nat) (kk : Nat → ClassId) (ad : Nat → Nat) (sz : Nat) (ws : va_W) (G : Nat → Nat → Int32) (P : Nat → Nat → Option Nat) (U : Nat → Nat → Int64) (V : Nat → Nat → Nat → Int32) (X : Nat → Nat → Nat → Int64) (O : Nat → Nat → Nat → Option Nat) (kd : Nat → Nat) (ln : Nat → Nat) (cnt : Nat) (this : Nat) (p0 : Nat) (p1 : Int32) (p2 : Int32) (hk_this : kd this = 11) (hk_p0 : kd p0 = 100) (hW : LW ws ad kk kd ln G P U V X O) (hT : TYP kd P O (V 0) cnt) (r : Int32) (hr : f_X10_find G P U V X O kd ln cnt this p0 p1 p2 = some r) : Met l yX10_find vmX10_find ({ frames := 3, cells := 0, slots := 0, locals := 85 } : Room) (va_Pc [.ref (ad this), .ref (ad p0), .int p1, .int p2] (fun U => U.heap.size = sz ∧ va_P (dC, dI) vwCl ws U.heap ∧ va_K (dC, dI) vwCl (cT kk) U ∧ va_D (fun _ => True) ws)) (va_Qi (fun (rz : Int32) (w : va_W) => rz = r ∧ LW w ad kk kd ln G P U V X O ∧ TYP kd P O (V 0) cnt) (fun w t => va_P (dC, dI) vwCl w t.heap ∧ va_K (dC, dI) vwCl (cT kk) t ∧ va_D (va_A ws sz) w) (va_A ws sz)) 0 0 (va_A ws sz) := by
  refine Met.ofW (cc := cX10_find) (maxL := 5) (ret := (some .int)) (by decide) rfl ?_
  intro p e s m args below meth c s₁ B hml hv
  obtain ⟨rfl, hsz, hP, hK, hD0⟩ := hv
  have hx := B.exec
  have hb := B.bytes
  have hrt := B.returns
  have hts := atoms_spec (ws := vmX10_find) B.pre
  have hown : s.vm.findClass RX10 = some m.cls := findClass_of_methodNamed B.named
  subst hsz
  have hD := hD0.self (sz := s.heap.size)
  generalize hAe : va_A ws s.heap.size = A at hD ⊢
  have hA : ∀ q : Nat, s.heap.size ≤ q → A q := fun q h => by rw [← hAe]; exact Or.inr h
  have hS : va_S A s.heap s.heap [] := va_S.rf
  have hl := lv_entry ([.ref (ad this), .ref (ad p0), .int p1, .int p2]) (n := 5) (Nat.le_of_ble_eq_true rfl)
  rw [lg_entry_eq]
  generalize (lg_sl ([.ref (ad this), .ref (ad p0), .int p1, .int p2]) ++ List.replicate (5 - (lg_sl ([.ref (ad this), .ref (ad p0), .int p1, .int p2])).length) Slot.unset).toArray = ls at hl ⊢
  exact bm_X10_find this p0 p1 p2 hk_this hk_p0 r hr hx hb hml hown hts hA hK hW hT hP hD hS hl (fun pc ls rz ws H locs he hd hW hT hP hD hS => by cases he; exact W.iret (v := r) hx hb hrt (fun t ht hW9 => ⟨⟨r, ws, rfl, ⟨rfl, hW, hT⟩, by rw [ht]; exact hP, va_K.moved hW9.alike hK, hD⟩, hS.F ht⟩) hS.2.2 hd)
set_option maxHeartbeats 4000000 in
set_option maxRecDepth 100000 in
theorem bm_X10_addForm {p : Program} {l : Launch} {e : Env} {s : State} {m : MethodId} {args : Array Value} {below : List Frame} {meth : Method} {c : Code} {Q : State → Prop} {A : Nat → Prop} {dC : Nat → ClassId} {dI : Nat → Nat → Nat} {kk : Nat → ClassId} {ad : Nat → Nat} {ws : va_W} {G : Nat → Nat → Int32} {P : Nat → Nat → Option Nat} {U : Nat → Nat → Int64} {V : Nat → Nat → Nat → Int32} {X : Nat → Nat → Nat → Int64} {O : Nat → Nat → Nat → Option Nat} {kd : Nat → Nat} {ln : Nat → Nat} {cnt : Nat} {H : Heap} {locs : List Loc} {ls : Array Slot} (this : Nat) (p0 : Nat) (p1 : Int32) (p2 : Int32) (hk_this : kd this = 11) (hk_p0 : kd p0 = 100) (c_G203 : Nat → Int32) (c_V0 : Nat → Nat → Int32) (c_V1 : Nat → Nat → Int32) (hr : f_X10_addForm G P U V X O kd ln cnt this p0 p1 p2 = some (c_G203, c_V0, c_V1)) (hx : p.tables.exec = Jvm.exec) (hb : c.code = cX10_addForm) (hml : c.maxLocals = 4) (hown : s.vm.findClass RX10 = some m.cls) (hts : ∀ w ∈ vmX10_addForm, w.before args s = true) (hA : ∀ q : Nat, s.heap.size ≤ q → A q) (hK : va_K (dC, dI) vwCl (cT kk) s) (hW : LW ws ad kk kd ln G P U V X O) (hT : TYP kd P O (V 0) cnt) (hP : va_P (dC, dI) vwCl ws H) (hD : va_D A ws) (hS : va_S A s.heap H locs) (hl : lv_has ls 4 [(0, .ref (ad this)), (1, .ref (ad p0)), (2, .int p1), (3, .int p2)])
    (K : ∀ (pc : Nat) (ls : Array Slot) (c_G203z : Nat → Int32) (c_V0z : Nat → Nat → Int32) (c_V1z : Nat → Nat → Int32) (ws : va_W) (H : Heap) (locs : List Loc), some (c_G203z, c_V0z, c_V1z) = some (c_G203, c_V0, c_V1) → decode cX10_addForm pc = .ok (.return_, 1) → LW ws ad kk kd ln (va_up G 203 c_G203z) P U (va_up (va_up V 0 c_V0z) 1 c_V1z) X O → TYP kd P O c_V0z cnt → va_P (dC, dI) vwCl ws H → va_D A ws → va_S A s.heap H locs → W p l e ({ frames := 4, cells := 0, slots := 0, locals := 143 } : Room) s m args below meth c H locs 0 0 Q (F0 m pc ls [])) : W p l e ({ frames := 4, cells := 0, slots := 0, locals := 143 } : Room) s m args below meth c H locs 0 0 Q (F0 m 0 ls []) := by
  unfold f_X10_addForm at hr
  refine lv_iload_n hx hb dX10_addForm_0 rfl (lv_at hl 3 rfl) ?_
  replace hr := jnS hr
  obtain ⟨j22, hj22, hr⟩ := hr
  have Jj22 : ∀ (c22_G203 : Nat → Int32) (c22_V0 : Nat → Nat → Int32) (c22_V1 : Nat → Nat → Int32) (ws : va_W) (H : Heap) (locs : List Loc) (ls : Array Slot), j22 c22_G203 c22_V0 c22_V1 = some (c_G203, c_V0, c_V1) → LW ws ad kk kd ln (va_up G 203 c22_G203) P U (va_up (va_up V 0 c22_V0) 1 c22_V1) X O → TYP kd P O c22_V0 cnt → va_P (dC, dI) vwCl ws H → va_D A ws → va_S A s.heap H locs → lv_has ls 4 [] → W p l e ({ frames := 4, cells := 0, slots := 0, locals := 143 } : Room) s m args below meth c H locs 0 0 Q (F0 m 22 ls []) := by
    intro c22_G203 c22_V0 c22_V1 ws H locs ls hr hW hT hP hD hS hl
    rw [hj22] at hr
    exact K 22 ls _ _ _ ws H _ hr dX10_addForm_22 hW hT hP hD hS
  refine lv_if_le (tgt := 22) hx hb dX10_addForm_1 (by decide) (fun c1 => ?_) (fun c1 => ?_)
  · replace hr := iteT c1 hr
    have eG : G = (va_up G 203 (G 203)) := by
      funext k
      by_cases h203 : k = 203
      · subst h203; rfl
      · simp only [va_up, h203, if_false]
    rw [eG] at hW
    clear eG
    have eV : V = (va_up (va_up V 0 (V 0)) 1 (V 1)) := by
      funext k
      by_cases h0 : k = 0
      · subst h0; rfl
      by_cases h1 : k = 1
      · subst h1; rfl
      · simp only [va_up, h0, h1, if_false]
    rw [eV] at hW
    clear eV
    exact Jj22 (G 203) (V 0) (V 1) ws H _ ls hr hW hT hP hD hS (lv_sub hl [] rfl)
  · replace hr := iteF c1 hr
    refine lv_aload_n hx hb dX10_addForm_4 rfl (lv_at hl 0 rfl) ?_
    refine lv_aload_n hx hb dX10_addForm_5 rfl (lv_at hl 1 rfl) ?_
    refine lv_iload_n hx hb dX10_addForm_6 rfl (lv_at hl 2 rfl) ?_
    refine lv_iload_n hx hb dX10_addForm_7 rfl (lv_at hl 3 rfl) ?_
    replace hr := b1S hr
    obtain ⟨r8z, hc8, hr⟩ := hr
    have hFc := fr_all hD hS hA
    obtain ⟨i1, hi1⟩ := hW.o10 hk_this
    refine va_calli (va_runV (As := [.ref (ad p0), .int p1, .int p2]) (rest := []) ⟨hx, hb, hml, hown, hts⟩ (m_X10_find l dC dI kk ad H.size ws G P U V X O kd ln cnt this p0 p1 p2 hk_this hk_p0 hW hT r8z hc8) (cwV 3 hts gc_RX10_X10_find_36 rfl rfl rfl (by decide +kernel) ⟨Nat.le_of_ble_eq_true rfl, Nat.le_of_ble_eq_true rfl⟩) ⟨fun a U g mk q => by obtain ⟨q0, q1, qP, qK, qD⟩ := q; exact ⟨q0, q1, qP, va_K.moved (u := U) (U := U.calling g mk a) (Vm.Alike.refl U.vm) qK, qD⟩, va_recv hK hP (ci := 10) (q0 := i1) rfl hi1, fun U hU hW => ⟨rfl, by rw [hU], by rw [hU]; exact hP, va_K.moved hW.alike hK, hD.weaken (fun _ _ _ _ => trivial)⟩⟩ rfl rfl hl.1 rfl (lv_room (Nat.le_of_ble_eq_true rfl)) dX10_addForm_8 ⟨Nat.le_of_ble_eq_true rfl, Nat.le_of_ble_eq_true rfl⟩) hS (fun q _ h => hFc q h) hFc (fun r8 w2 t H1 locs ht hvm hw hB hz1 hk1 hS => ?_)
    obtain ⟨hw0, hW, hT⟩ := hw
    replace hw0 : r8 = r8z := hw0
    subst hw0
    obtain ⟨hP1, hK1, hD1⟩ := hB
    rw [ht] at hP1
    obtain ⟨hP, hD⟩ := jn_all (w1 := w2) hFc hP1 hD1
    replace hP : va_P (dC, dI) vwCl w2 H1 := hP
    replace hD : va_D A w2 := hD
    clear hFc hP1 hK1 hD1 hk1 hz1 ht hvm
    generalize H1 = H at hP hS ⊢
    refine lv_iconst (v := (-1)) hx hb dX10_addForm_11 (by decide +kernel) ?_
    refine lv_icmp_ne (tgt := 22) hx hb dX10_addForm_12 (by decide) (fun c12 => ?_) (fun c12 => ?_)
    · replace hr := iteF c12 hr
      have eG : G = (va_up G 203 (G 203)) := by
        funext k
        by_cases h203 : k = 203
        · subst h203; rfl
        · simp only [va_up, h203, if_false]
      rw [eG] at hW
      clear eG
      have eV : V = (va_up (va_up V 0 (V 0)) 1 (V 1)) := by
        funext k
        by_cases h0 : k = 0
        · subst h0; rfl
        by_cases h1 : k = 1
        · subst h1; rfl
        · simp only [va_up, h0, h1, if_false]
      rw [eV] at hW
      clear eV
      exact Jj22 (G 203) (V 0) (V 1) w2 H _ ls hr hW hT hP hD hS (lv_sub hl [] rfl)
    · replace hr := iteT c12 hr
      refine lv_aload_n hx hb dX10_addForm_15 rfl (lv_at hl 0 rfl) ?_
      refine lv_aload_n hx hb dX10_addForm_16 rfl (lv_at hl 1 rfl) ?_
      refine lv_iload_n hx hb dX10_addForm_17 rfl (lv_at hl 2 rfl) ?_
      refine lv_iload_n hx hb dX10_addForm_18 rfl (lv_at hl 3 rfl) ?_
      replace hr := b3S hr
      obtain ⟨c19_G203, c19_V0, c19_V1, hc19, hr⟩ := hr
      have hFc := fr_all hD hS hA
      obtain ⟨i3, hi3⟩ := hW.o10 hk_this
      refine va_callv (va_runV (As := [.ref (ad p0), .int p1, .int p2]) (rest := []) ⟨hx, hb, hml, hown, hts⟩ (m_X10_add l dC dI kk ad H.size w2 G P U V X O kd ln cnt this p0 p1 p2 hk_this hk_p0 hW hT c19_G203 c19_V0 c19_V1 hc19) (cwV 3 hts gc_RX10_X10_add_40 rfl rfl rfl (by decide +kernel) ⟨Nat.le_of_ble_eq_true rfl, Nat.le_of_ble_eq_true rfl⟩) ⟨fun a U g mk q => by obtain ⟨q0, q1, qP, qK, qD⟩ := q; exact ⟨q0, q1, qP, va_K.moved (u := U) (U := U.calling g mk a) (Vm.Alike.refl U.vm) qK, qD⟩, va_recv hK hP (ci := 10) (q0 := i3) rfl hi3, fun U hU hW => ⟨rfl, by rw [hU], by rw [hU]; exact hP, va_K.moved hW.alike hK, hD.weaken (fun _ _ _ _ => trivial)⟩⟩ rfl rfl hl.1 rfl (lv_room (Nat.le_of_ble_eq_true rfl)) dX10_addForm_19 ⟨Nat.le_of_ble_eq_true rfl, Nat.le_of_ble_eq_true rfl⟩) hS (fun q _ h => hFc q h) hFc (fun w4 t H1 locs ht hvm hw hB hz1 hk1 hS => ?_)
      obtain ⟨hW, hT⟩ := hw
      obtain ⟨hP1, hK1, hD1⟩ := hB
      rw [ht] at hP1
      obtain ⟨hP, hD⟩ := jn_all (w1 := w4) hFc hP1 hD1
      replace hP : va_P (dC, dI) vwCl w4 H1 := hP
      replace hD : va_D A w4 := hD
      clear hFc hP1 hK1 hD1 hk1 hz1 ht hvm
      generalize H1 = H at hP hS ⊢
      exact Jj22 c19_G203 c19_V0 c19_V1 w4 H _ ls hr hW hT hP hD hS (lv_sub hl [] rfl)
set_option maxHeartbeats 4000000 in
set_option maxRecDepth 100000 in
theorem m_X10_addForm (l : Launch) (dC : Nat → ClassId) (dI : Nat → Nat → Nat) (kk : Nat → ClassId) (ad : Nat → Nat) (sz : Nat) (ws : va_W) (G : Nat → Nat → Int32) (P : Nat → Nat → Option Nat) (U : Nat → Nat → Int64) (V : Nat → Nat → Nat → Int32) (X : Nat → Nat → Nat → Int64) (O : Nat → Nat → Nat → Option Nat) (kd : Nat → Nat) (ln : Nat → Nat) (cnt : Nat) (this : Nat) (p0 : Nat) (p1 : Int32) (p2 : Int32) (hk_this : kd this = 11) (hk_p0 : kd p0 = 100) (hW : LW ws ad kk kd ln G P U V X O) (hT : TYP kd P O (V 0) cnt) (c_G203 : Nat → Int32) (c_V0 : Nat → Nat → Int32) (c_V1 : Nat → Nat → Int32) (hr : f_X10_addForm G P U V X O kd ln cnt this p0 p1 p2 = some (c_G203, c_V0, c_V1)) : Met l yX10_addForm vmX10_addForm ({ frames := 4, cells := 0, slots := 0, locals := 143 } : Room) (va_Pc [.ref (ad this), .ref (ad p0), .int p1, .int p2] (fun U => U.heap.size = sz ∧ va_P (dC, dI) vwCl ws U.heap ∧ va_K (dC, dI) vwCl (cT kk) U ∧ va_D (fun _ => True) ws)) (va_Qv (fun w => LW w ad kk kd ln (va_up G 203 c_G203) P U (va_up (va_up V 0 c_V0) 1 c_V1) X O ∧ TYP kd P O c_V0 cnt) (fun w t => va_P (dC, dI) vwCl w t.heap ∧ va_K (dC, dI) vwCl (cT kk) t ∧ va_D (va_A ws sz) w) (va_A ws sz)) 0 0 (va_A ws sz) := by
  refine Met.ofW (cc := cX10_addForm) (maxL := 4) (ret := none) (by decide) rfl ?_
  intro p e s m args below meth c s₁ B hml hv
  obtain ⟨rfl, hsz, hP, hK, hD0⟩ := hv
  have hx := B.exec
  have hb := B.bytes
  have hrt := B.returns
  have hts := atoms_spec (ws := vmX10_addForm) B.pre
  have hown : s.vm.findClass RX10 = some m.cls := findClass_of_methodNamed B.named
  subst hsz
  have hD := hD0.self (sz := s.heap.size)
  generalize hAe : va_A ws s.heap.size = A at hD ⊢
  have hA : ∀ q : Nat, s.heap.size ≤ q → A q := fun q h => by rw [← hAe]; exact Or.inr h
  have hS : va_S A s.heap s.heap [] := va_S.rf
  have hl := lv_entry ([.ref (ad this), .ref (ad p0), .int p1, .int p2]) (n := 4) (Nat.le_of_ble_eq_true rfl)
  rw [lg_entry_eq]
  generalize (lg_sl ([.ref (ad this), .ref (ad p0), .int p1, .int p2]) ++ List.replicate (4 - (lg_sl ([.ref (ad this), .ref (ad p0), .int p1, .int p2])).length) Slot.unset).toArray = ls at hl ⊢
  exact bm_X10_addForm this p0 p1 p2 hk_this hk_p0 c_G203 c_V0 c_V1 hr hx hb hml hown hts hA hK hW hT hP hD hS hl (fun pc ls c_G203z c_V0z c_V1z ws H locs he hd hW hT hP hD hS => by cases he; exact W.vret hx hb hrt (fun t ht hW9 => ⟨⟨ws, rfl, ⟨hW, hT⟩, by rw [ht]; exact hP, va_K.moved hW9.alike hK, hD⟩, hS.F ht⟩) hS.2.2 hd)
set_option maxHeartbeats 4000000 in
set_option maxRecDepth 100000 in
theorem bm_X10_copy {p : Program} {l : Launch} {e : Env} {s : State} {m : MethodId} {args : Array Value} {below : List Frame} {meth : Method} {c : Code} {Q : State → Prop} {A : Nat → Prop} {dC : Nat → ClassId} {dI : Nat → Nat → Nat} {kk : Nat → ClassId} {ad : Nat → Nat} {ws : va_W} {G : Nat → Nat → Int32} {P : Nat → Nat → Option Nat} {U : Nat → Nat → Int64} {V : Nat → Nat → Nat → Int32} {X : Nat → Nat → Nat → Int64} {O : Nat → Nat → Nat → Option Nat} {kd : Nat → Nat} {ln : Nat → Nat} {cnt : Nat} {H : Heap} {locs : List Loc} {ls : Array Slot} (this : Nat) (p0 : Nat) (hk_this : kd this = 11) (hk_p0 : kd p0 = 11) (c_G203 : Nat → Int32) (c_V0 : Nat → Nat → Int32) (c_V1 : Nat → Nat → Int32) (hr : f_X10_copy G P U V X O kd ln cnt this p0 = some (c_G203, c_V0, c_V1)) (hx : p.tables.exec = Jvm.exec) (hb : c.code = cX10_copy) (hml : c.maxLocals = 3) (hown : s.vm.findClass RX10 = some m.cls) (hts : ∀ w ∈ vmX10_copy, w.before args s = true) (hA : ∀ q : Nat, s.heap.size ≤ q → A q) (hK : va_K (dC, dI) vwCl (cT kk) s) (hW : LW ws ad kk kd ln G P U V X O) (hT : TYP kd P O (V 0) cnt) (hP : va_P (dC, dI) vwCl ws H) (hD : va_D A ws) (hS : va_S A s.heap H locs) (hl : lv_has ls 3 [(0, .ref (ad this)), (1, .ref (ad p0))])
    (K : ∀ (pc : Nat) (ls : Array Slot) (c_G203z : Nat → Int32) (c_V0z : Nat → Nat → Int32) (c_V1z : Nat → Nat → Int32) (ws : va_W) (H : Heap) (locs : List Loc), some (c_G203z, c_V0z, c_V1z) = some (c_G203, c_V0, c_V1) → decode cX10_copy pc = .ok (.return_, 1) → LW ws ad kk kd ln (va_up G 203 c_G203z) P U (va_up (va_up V 0 c_V0z) 1 c_V1z) X O → TYP kd P O c_V0z cnt → va_P (dC, dI) vwCl ws H → va_D A ws → va_S A s.heap H locs → W p l e ({ frames := 4, cells := 0, slots := 0, locals := 143 } : Room) s m args below meth c H locs 0 0 Q (F0 m pc ls [])) : W p l e ({ frames := 4, cells := 0, slots := 0, locals := 143 } : Room) s m args below meth c H locs 0 0 Q (F0 m 0 ls []) := by
  unfold f_X10_copy at hr
  refine lv_aload_n hx hb dX10_copy_0 rfl (lv_at hl 0 rfl) ?_
  refine lv_iconst (v := 0) hx hb dX10_copy_1 (by decide +kernel) ?_
  obtain ⟨i1, hi1⟩ := hW.o10 hk_this
  refine va_put (D := (dC, dI)) (ci := 10) (v := .int 0) (ty := .int) (C := RX10) (T := TX10) (N := 4) hx hb hts inX10 tyX10 tyX10_ok nmX10 hown hK hP hD hS i1 hi1 rfl 3 (by decide) (hts (.fieldLink RX10 9 "SpellTurner$WordRow" "count" "I") ic_5) (fun _ h9 => h9) rfl (by decide +kernel) rfl rfl (Nat.le_of_ble_eq_true rfl) dX10_copy_2 (fun H locs hP2 hD2 hS => ?_)
  obtain ⟨m2, w2, em2, hP, hD, hW⟩ : ∃ (z : Nat → Int32) (w : va_W), z = (va_up (G 203) this 0) ∧ va_P (dC, dI) vwCl w H ∧ va_D A w ∧ LW w ad kk kd ln (va_up G 203 z) P U V X O := ⟨_, _, rfl, hP2, hD2, hW.setG hD hi1 (by rw [hk_this]; decide) 203 0 (by rw [hk_this]; rfl)⟩
  replace hr := vlS hr m2 em2
  clear em2
  refine lv_iconst (v := 0) hx hb dX10_copy_5 (by decide +kernel) ?_
  refine lv_istore_n (lv' := [(2, .int 0), (0, .ref (ad this)), (1, .ref (ad p0))]) hx hb dX10_copy_6 rfl hl (by decide) rfl (fun ls hl => ?_)
  have lp7 : ∀ (n7 : Nat), ∀ (y7_2 : Int32) (d7_G203 : Nat → Int32) (d7_V0 : Nat → Nat → Int32) (d7_V1 : Nat → Nat → Int32) (ws : va_W) (H : Heap) (locs : List Loc) (ls : Array Slot), L_X10_copy_7 G P U V X O kd ln cnt this p0 n7 y7_2 d7_G203 d7_V0 d7_V1 = some (c_G203, c_V0, c_V1) → LW ws ad kk kd ln (va_up G 203 d7_G203) P U (va_up (va_up V 0 d7_V0) 1 d7_V1) X O → TYP kd P O d7_V0 cnt → va_P (dC, dI) vwCl ws H → va_D A ws → va_S A s.heap H locs → lv_has ls 3 [(0, .ref (ad this)), (1, .ref (ad p0)), (2, .int y7_2)] → W p l e ({ frames := 4, cells := 0, slots := 0, locals := 143 } : Room) s m args below meth c H locs 0 0 Q (F0 m 7 ls []) := by
    intro n7
    induction n7 with
    | zero => intro y7_2 d7_G203 d7_V0 d7_V1 ws H locs ls hr hW hT hP hD hS hl; exact nomatch (show none = some (c_G203, c_V0, c_V1) from hr)
    | succ n7 ih7 =>
      intro y7_2 d7_G203 d7_V0 d7_V1 ws H locs ls hr hW hT hP hD hS hl
      replace hr : B_X10_copy_7 G P U V X O kd ln cnt this p0 (L_X10_copy_7 G P U V X O kd ln cnt this p0 n7) y7_2 d7_G203 d7_V0 d7_V1 = some (c_G203, c_V0, c_V1) := hr
      unfold B_X10_copy_7 at hr
      refine lv_iload_n hx hb dX10_copy_7 rfl (lv_at hl 2 rfl) ?_
      refine lv_aload_n hx hb dX10_copy_8 rfl (lv_at hl 1 rfl) ?_
      obtain ⟨i3, hi3⟩ := hW.o10 hk_p0
      refine va_get (D := (dC, dI)) (ci := 10) (v := .int (d7_G203 p0)) (C := RX10) (T := TX10) (N := 4) hx hb hts inX10 hown hK hP i3 hi3 rfl 3 (by decide) (hts (.fieldLink RX10 9 "SpellTurner$WordRow" "count" "I") ic_5) (fun _ h9 => h9) rfl dX10_copy_9 ?_
      refine lv_icmp_ge (tgt := 41) hx hb dX10_copy_12 (by decide) (fun c12 => ?_) (fun c12 => ?_)
      · replace hr := iteT c12 hr
        exact K 41 ls _ _ _ ws H _ hr dX10_copy_41 hW hT hP hD hS
      · replace hr := iteF c12 hr
        refine lv_aload_n hx hb dX10_copy_15 rfl (lv_at hl 0 rfl) ?_
        refine lv_aload_n hx hb dX10_copy_16 rfl (lv_at hl 1 rfl) ?_
        obtain ⟨i4, hi4⟩ := hW.o10 hk_p0
        replace hr := nnS hr
        obtain ⟨a17, hn17, hr⟩ := hr
        have hk_a17 : kd a17 = 100 := hT.1 201 _ _ hn17
        refine va_get (D := (dC, dI)) (ci := 10) (v := .ref (ad a17)) (C := RX10) (T := TX10) (N := 4) hx hb hts inX10 hown hK hP i4 hi4 rfl 1 (by decide) (hts (.fieldLink RX10 18 "SpellTurner$WordRow" "letters" "[B") ic_14) (fun _ h9 => h9) (congrArg (fun o => some (va_re ad o)) hn17) dX10_copy_17 ?_
        refine lv_iload_n hx hb dX10_copy_20 rfl (lv_at hl 2 rfl) ?_
        refine lv_aload_n hx hb dX10_copy_21 rfl (lv_at hl 1 rfl) ?_
        obtain ⟨i5, hi5⟩ := hW.o10 hk_p0
        refine va_get (D := (dC, dI)) (ci := 10) (v := .int ((G 200) p0)) (C := RX10) (T := TX10) (N := 4) hx hb hts inX10 hown hK hP i5 hi5 rfl 0 (by decide) (hts (.fieldLink RX10 15 "SpellTurner$WordRow" "width" "I") ic_13) (fun _ h9 => h9) rfl dX10_copy_22 ?_
        refine lv_imul hx hb dX10_copy_25 ?_
        refine lv_aload_n hx hb dX10_copy_26 rfl (lv_at hl 1 rfl) ?_
        obtain ⟨i6, hi6⟩ := hW.o10 hk_p0
        replace hr := nnS hr
        obtain ⟨a27, hn27, hr⟩ := hr
        have hk_a27 : kd a27 = 101 := hT.1 202 _ _ hn27
        refine va_get (D := (dC, dI)) (ci := 10) (v := .ref (ad a27)) (C := RX10) (T := TX10) (N := 4) hx hb hts inX10 hown hK hP i6 hi6 rfl 2 (by decide) (hts (.fieldLink RX10 22 "SpellTurner$WordRow" "lengths" "[I") ic_6) (fun _ h9 => h9) (congrArg (fun o => some (va_re ad o)) hn27) dX10_copy_27 ?_
        refine lv_iload_n hx hb dX10_copy_30 rfl (lv_at hl 2 rfl) ?_
        obtain ⟨i7, hi7⟩ := hW.v1 hk_a27
        replace hr := iteS hr
        obtain ⟨hi31, hr⟩ := hr
        refine va_iald (f := (d7_V1 a27)) hx hb hK hP i7 1 hi7 rfl (inbV hi31) dX10_copy_31 ?_
        replace hr := b3S hr
        obtain ⟨c32_G203, c32_V0, c32_V1, hc32, hr⟩ := hr
        have hFc := fr_all hD hS hA
        obtain ⟨i8, hi8⟩ := hW.o10 hk_this
        refine va_callv (va_runV (As := [.ref (ad a17), .int (y7_2 * ((G 200) p0)), .int ((d7_V1 a27) (Int32.toNatClampNeg y7_2))]) (rest := []) ⟨hx, hb, hml, hown, hts⟩ (m_X10_add l dC dI kk ad H.size ws (va_up G 203 d7_G203) P U (va_up (va_up V 0 d7_V0) 1 d7_V1) X O kd ln cnt this a17 (y7_2 * ((G 200) p0)) ((d7_V1 a27) (Int32.toNatClampNeg y7_2)) hk_this hk_a17 hW hT c32_G203 c32_V0 c32_V1 hc32) (cwV 3 hts gc_RX10_X10_add_40 rfl rfl rfl (by decide +kernel) ⟨Nat.le_of_ble_eq_true rfl, Nat.le_of_ble_eq_true rfl⟩) ⟨fun a U g mk q => by obtain ⟨q0, q1, qP, qK, qD⟩ := q; exact ⟨q0, q1, qP, va_K.moved (u := U) (U := U.calling g mk a) (Vm.Alike.refl U.vm) qK, qD⟩, va_recv hK hP (ci := 10) (q0 := i8) rfl hi8, fun U hU hW => ⟨rfl, by rw [hU], by rw [hU]; exact hP, va_K.moved hW.alike hK, hD.weaken (fun _ _ _ _ => trivial)⟩⟩ rfl rfl hl.1 rfl (lv_room (Nat.le_of_ble_eq_true rfl)) dX10_copy_32 ⟨Nat.le_of_ble_eq_true rfl, Nat.le_of_ble_eq_true rfl⟩) hS (fun q _ h => hFc q h) hFc (fun w9 t H1 locs ht hvm hw hB hz1 hk1 hS => ?_)
        obtain ⟨hW, hT⟩ := hw
        obtain ⟨hP1, hK1, hD1⟩ := hB
        rw [ht] at hP1
        obtain ⟨hP, hD⟩ := jn_all (w1 := w9) hFc hP1 hD1
        replace hP : va_P (dC, dI) vwCl w9 H1 := hP
        replace hD : va_D A w9 := hD
        clear hFc hP1 hK1 hD1 hk1 hz1 ht hvm
        generalize H1 = H at hP hS ⊢
        refine lv_iinc (v := (y7_2 + 1)) (lv' := [(2, .int (y7_2 + 1)), (0, .ref (ad this)), (1, .ref (ad p0))]) hx hb dX10_copy_35 hl (k := 2) rfl rfl (by decide) rfl (fun ls hl => ?_)
        refine lv_goto (tgt := 7) hx hb dX10_copy_38 (by decide) ?_
        have eG : (va_up (va_up G 203 d7_G203) 203 c32_G203) = (va_up G 203 c32_G203) := by
          funext k
          by_cases h203 : k = 203
          · subst h203; rfl
          · simp only [va_up, h203, if_false]
        rw [eG] at hW
        clear eG
        have eV : (va_up (va_up (va_up (va_up V 0 d7_V0) 1 d7_V1) 0 c32_V0) 1 c32_V1) = (va_up (va_up V 0 c32_V0) 1 c32_V1) := by
          funext k
          by_cases h0 : k = 0
          · subst h0; rfl
          by_cases h1 : k = 1
          · subst h1; rfl
          · simp only [va_up, h0, h1, if_false]
        rw [eV] at hW
        clear eV
        exact ih7 (y7_2 + 1) c32_G203 c32_V0 c32_V1 w9 H _ ls hr hW hT hP hD hS (lv_sub hl [1, 2, 0] rfl)
  have eV : V = (va_up (va_up V 0 (V 0)) 1 (V 1)) := by
    funext k
    by_cases h0 : k = 0
    · subst h0; rfl
    by_cases h1 : k = 1
    · subst h1; rfl
    · simp only [va_up, h0, h1, if_false]
  rw [eV] at hW
  clear eV
  exact lp7 NN 0 m2 (V 0) (V 1) w2 H _ ls hr hW hT hP hD hS (lv_sub hl [1, 2, 0] rfl)
set_option maxHeartbeats 4000000 in
set_option maxRecDepth 100000 in
theorem m_X10_copy (l : Launch) (dC : Nat → ClassId) (dI : Nat → Nat → Nat) (kk : Nat → ClassId) (ad : Nat → Nat) (sz : Nat) (ws : va_W) (G : Nat → Nat → Int32) (P : Nat → Nat → Option Nat) (U : Nat → Nat → Int64) (V : Nat → Nat → Nat → Int32) (X : Nat → Nat → Nat → Int64) (O : Nat → Nat → Nat → Option Nat) (kd : Nat → Nat) (ln : Nat → Nat) (cnt : Nat) (this : Nat) (p0 : Nat) (hk_this : kd this = 11) (hk_p0 : kd p0 = 11) (hW : LW ws ad kk kd ln G P U V X O) (hT : TYP kd P O (V 0) cnt) (c_G203 : Nat → Int32) (c_V0 : Nat → Nat → Int32) (c_V1 : Nat → Nat → Int32) (hr : f_X10_copy G P U V X O kd ln cnt this p0 = some (c_G203, c_V0, c_V1)) : Met l yX10_copy vmX10_copy ({ frames := 4, cells := 0, slots := 0, locals := 143 } : Room) (va_Pc [.ref (ad this), .ref (ad p0)] (fun U => U.heap.size = sz ∧ va_P (dC, dI) vwCl ws U.heap ∧ va_K (dC, dI) vwCl (cT kk) U ∧ va_D (fun _ => True) ws)) (va_Qv (fun w => LW w ad kk kd ln (va_up G 203 c_G203) P U (va_up (va_up V 0 c_V0) 1 c_V1) X O ∧ TYP kd P O c_V0 cnt) (fun w t => va_P (dC, dI) vwCl w t.heap ∧ va_K (dC, dI) vwCl (cT kk) t ∧ va_D (va_A ws sz) w) (va_A ws sz)) 0 0 (va_A ws sz) := by
  refine Met.ofW (cc := cX10_copy) (maxL := 3) (ret := none) (by decide) rfl ?_
  intro p e s m args below meth c s₁ B hml hv
  obtain ⟨rfl, hsz, hP, hK, hD0⟩ := hv
  have hx := B.exec
  have hb := B.bytes
  have hrt := B.returns
  have hts := atoms_spec (ws := vmX10_copy) B.pre
  have hown : s.vm.findClass RX10 = some m.cls := findClass_of_methodNamed B.named
  subst hsz
  have hD := hD0.self (sz := s.heap.size)
  generalize hAe : va_A ws s.heap.size = A at hD ⊢
  have hA : ∀ q : Nat, s.heap.size ≤ q → A q := fun q h => by rw [← hAe]; exact Or.inr h
  have hS : va_S A s.heap s.heap [] := va_S.rf
  have hl := lv_entry ([.ref (ad this), .ref (ad p0)]) (n := 3) (Nat.le_of_ble_eq_true rfl)
  rw [lg_entry_eq]
  generalize (lg_sl ([.ref (ad this), .ref (ad p0)]) ++ List.replicate (3 - (lg_sl ([.ref (ad this), .ref (ad p0)])).length) Slot.unset).toArray = ls at hl ⊢
  exact bm_X10_copy this p0 hk_this hk_p0 c_G203 c_V0 c_V1 hr hx hb hml hown hts hA hK hW hT hP hD hS hl (fun pc ls c_G203z c_V0z c_V1z ws H locs he hd hW hT hP hD hS => by cases he; exact W.vret hx hb hrt (fun t ht hW9 => ⟨⟨ws, rfl, ⟨hW, hT⟩, by rw [ht]; exact hP, va_K.moved hW9.alike hK, hD⟩, hS.F ht⟩) hS.2.2 hd)
set_option maxHeartbeats 4000000 in
set_option maxRecDepth 100000 in
theorem bm_X10_standsIn {p : Program} {l : Launch} {e : Env} {s : State} {m : MethodId} {args : Array Value} {below : List Frame} {meth : Method} {c : Code} {Q : State → Prop} {A : Nat → Prop} {dC : Nat → ClassId} {dI : Nat → Nat → Nat} {kk : Nat → ClassId} {ad : Nat → Nat} {ws : va_W} {G : Nat → Nat → Int32} {P : Nat → Nat → Option Nat} {U : Nat → Nat → Int64} {V : Nat → Nat → Nat → Int32} {X : Nat → Nat → Nat → Int64} {O : Nat → Nat → Nat → Option Nat} {kd : Nat → Nat} {ln : Nat → Nat} {cnt : Nat} {H : Heap} {locs : List Loc} {ls : Array Slot} (this : Nat) (p0 : Int32) (p1 : Nat) (p2 : Int32) (hk_this : kd this = 11) (hk_p1 : kd p1 = 100) (r : Int32) (hr : f_X10_standsIn G P U V X O kd ln cnt this p0 p1 p2 = some r) (hx : p.tables.exec = Jvm.exec) (hb : c.code = cX10_standsIn) (hml : c.maxLocals = 4) (hown : s.vm.findClass RX10 = some m.cls) (hts : ∀ w ∈ vmX10_standsIn, w.before args s = true) (hA : ∀ q : Nat, s.heap.size ≤ q → A q) (hK : va_K (dC, dI) vwCl (cT kk) s) (hW : LW ws ad kk kd ln G P U V X O) (hT : TYP kd P O (V 0) cnt) (hP : va_P (dC, dI) vwCl ws H) (hD : va_D A ws) (hS : va_S A s.heap H locs) (hl : lv_has ls 4 [(0, .ref (ad this)), (1, .int p0), (2, .ref (ad p1)), (3, .int p2)])
    (K : ∀ (pc : Nat) (ls : Array Slot) (rz : Int32) (ws : va_W) (H : Heap) (locs : List Loc), some rz = some r → is01 rz → decode cX10_standsIn pc = .ok (.ireturn, 1) → LW ws ad kk kd ln G P U V X O → TYP kd P O (V 0) cnt → va_P (dC, dI) vwCl ws H → va_D A ws → va_S A s.heap H locs → W p l e ({ frames := 3, cells := 0, slots := 0, locals := 85 } : Room) s m args below meth c H locs 0 0 Q (F0 m pc ls [.int rz])) : W p l e ({ frames := 3, cells := 0, slots := 0, locals := 85 } : Room) s m args below meth c H locs 0 0 Q (F0 m 0 ls []) := by
  unfold f_X10_standsIn at hr
  refine lv_aload_n hx hb dX10_standsIn_0 rfl (lv_at hl 0 rfl) ?_
  obtain ⟨i1, hi1⟩ := hW.o10 hk_this
  replace hr := nnS hr
  obtain ⟨a1, hn1, hr⟩ := hr
  have hk_a1 : kd a1 = 100 := hT.1 201 _ _ hn1
  refine va_get (D := (dC, dI)) (ci := 10) (v := .ref (ad a1)) (C := RX10) (T := TX10) (N := 4) hx hb hts inX10 hown hK hP i1 hi1 rfl 1 (by decide) (hts (.fieldLink RX10 18 "SpellTurner$WordRow" "letters" "[B") ic_14) (fun _ h9 => h9) (congrArg (fun o => some (va_re ad o)) hn1) dX10_standsIn_1 ?_
  refine lv_iload_n hx hb dX10_standsIn_4 rfl (lv_at hl 1 rfl) ?_
  refine lv_aload_n hx hb dX10_standsIn_5 rfl (lv_at hl 0 rfl) ?_
  obtain ⟨i2, hi2⟩ := hW.o10 hk_this
  refine va_get (D := (dC, dI)) (ci := 10) (v := .int ((G 200) this)) (C := RX10) (T := TX10) (N := 4) hx hb hts inX10 hown hK hP i2 hi2 rfl 0 (by decide) (hts (.fieldLink RX10 15 "SpellTurner$WordRow" "width" "I") ic_13) (fun _ h9 => h9) rfl dX10_standsIn_6 ?_
  refine lv_imul hx hb dX10_standsIn_9 ?_
  refine lv_aload_n hx hb dX10_standsIn_10 rfl (lv_at hl 2 rfl) ?_
  refine lv_iload_n hx hb dX10_standsIn_11 rfl (lv_at hl 3 rfl) ?_
  refine lv_aload_n hx hb dX10_standsIn_12 rfl (lv_at hl 0 rfl) ?_
  obtain ⟨i3, hi3⟩ := hW.o10 hk_this
  replace hr := nnS hr
  obtain ⟨a13, hn13, hr⟩ := hr
  have hk_a13 : kd a13 = 101 := hT.1 202 _ _ hn13
  refine va_get (D := (dC, dI)) (ci := 10) (v := .ref (ad a13)) (C := RX10) (T := TX10) (N := 4) hx hb hts inX10 hown hK hP i3 hi3 rfl 2 (by decide) (hts (.fieldLink RX10 22 "SpellTurner$WordRow" "lengths" "[I") ic_6) (fun _ h9 => h9) (congrArg (fun o => some (va_re ad o)) hn13) dX10_standsIn_13 ?_
  refine lv_iload_n hx hb dX10_standsIn_16 rfl (lv_at hl 1 rfl) ?_
  obtain ⟨i4, hi4⟩ := hW.v1 hk_a13
  replace hr := iteS hr
  obtain ⟨hi17, hr⟩ := hr
  refine va_iald (f := ((V 1) a13)) hx hb hK hP i4 1 hi4 rfl (inbV hi17) dX10_standsIn_17 ?_
  replace hr := b1S hr
  obtain ⟨r18z, hc18, hr⟩ := hr
  have hFc := fr_all hD hS hA
  refine va_calli (va_runS (As := [.ref (ad a1), .int (p0 * ((G 200) this)), .ref (ad p1), .int p2, .int (((V 1) a13) (Int32.toNatClampNeg p0))]) (rest := []) ⟨hx, hb, hml, hown, hts⟩ (m_X10_same l dC dI kk ad H.size ws G P U V X O kd ln cnt a1 (p0 * ((G 200) this)) p1 p2 (((V 1) a13) (Int32.toNatClampNeg p0)) hk_a1 hk_p1 hW hT r18z hc18) (va_cwS 5 hts gc_RX10_X10_same_44 rfl rfl rfl (by decide +kernel) ⟨Nat.le_of_ble_eq_true rfl, Nat.le_of_ble_eq_true rfl⟩) ⟨fun a U g mk q => by obtain ⟨q0, q1, qP, qK, qD⟩ := q; exact ⟨q0, q1, qP, va_K.moved (u := U) (U := U.calling g mk a) (Vm.Alike.refl U.vm) qK, qD⟩, fun U hU hW => ⟨rfl, by rw [hU], by rw [hU]; exact hP, va_K.moved hW.alike hK, hD.weaken (fun _ _ _ _ => trivial)⟩⟩ rfl rfl hl.1 rfl (lv_room (Nat.le_of_ble_eq_true rfl)) dX10_standsIn_18 ⟨Nat.le_of_ble_eq_true rfl, Nat.le_of_ble_eq_true rfl⟩) hS (fun q _ h => hFc q h) hFc (fun r18 w5 t H1 locs ht hvm hw hB hz1 hk1 hS => ?_)
  obtain ⟨hw0, hW, hT⟩ := hw
  replace hw0 : r18 = r18z := hw0
  subst hw0
  obtain ⟨hP1, hK1, hD1⟩ := hB
  rw [ht] at hP1
  obtain ⟨hP, hD⟩ := jn_all (w1 := w5) hFc hP1 hD1
  replace hP : va_P (dC, dI) vwCl w5 H1 := hP
  replace hD : va_D A w5 := hD
  clear hFc hP1 hK1 hD1 hk1 hz1 ht hvm
  generalize H1 = H at hP hS ⊢
  replace hr := iteS hr
  obtain ⟨hz21, hr⟩ := hr
  exact K 21 ls _ w5 H _ hr hz21 dX10_standsIn_21 hW hT hP hD hS
set_option maxHeartbeats 4000000 in
set_option maxRecDepth 100000 in
theorem m_X10_standsIn (l : Launch) (dC : Nat → ClassId) (dI : Nat → Nat → Nat) (kk : Nat → ClassId) (ad : Nat → Nat) (sz : Nat) (ws : va_W) (G : Nat → Nat → Int32) (P : Nat → Nat → Option Nat) (U : Nat → Nat → Int64) (V : Nat → Nat → Nat → Int32) (X : Nat → Nat → Nat → Int64) (O : Nat → Nat → Nat → Option Nat) (kd : Nat → Nat) (ln : Nat → Nat) (cnt : Nat) (this : Nat) (p0 : Int32) (p1 : Nat) (p2 : Int32) (hk_this : kd this = 11) (hk_p1 : kd p1 = 100) (hW : LW ws ad kk kd ln G P U V X O) (hT : TYP kd P O (V 0) cnt) (r : Int32) (hr : f_X10_standsIn G P U V X O kd ln cnt this p0 p1 p2 = some r) : Met l yX10_standsIn vmX10_standsIn ({ frames := 3, cells := 0, slots := 0, locals := 85 } : Room) (va_Pc [.ref (ad this), .int p0, .ref (ad p1), .int p2] (fun U => U.heap.size = sz ∧ va_P (dC, dI) vwCl ws U.heap ∧ va_K (dC, dI) vwCl (cT kk) U ∧ va_D (fun _ => True) ws)) (va_Qi (fun (rz : Int32) (w : va_W) => rz = r ∧ LW w ad kk kd ln G P U V X O ∧ TYP kd P O (V 0) cnt) (fun w t => va_P (dC, dI) vwCl w t.heap ∧ va_K (dC, dI) vwCl (cT kk) t ∧ va_D (va_A ws sz) w) (va_A ws sz)) 0 0 (va_A ws sz) := by
  refine Met.ofW (cc := cX10_standsIn) (maxL := 4) (ret := (some .boolean)) (by decide) rfl ?_
  intro p e s m args below meth c s₁ B hml hv
  obtain ⟨rfl, hsz, hP, hK, hD0⟩ := hv
  have hx := B.exec
  have hb := B.bytes
  have hrt := B.returns
  have hts := atoms_spec (ws := vmX10_standsIn) B.pre
  have hown : s.vm.findClass RX10 = some m.cls := findClass_of_methodNamed B.named
  subst hsz
  have hD := hD0.self (sz := s.heap.size)
  generalize hAe : va_A ws s.heap.size = A at hD ⊢
  have hA : ∀ q : Nat, s.heap.size ≤ q → A q := fun q h => by rw [← hAe]; exact Or.inr h
  have hS : va_S A s.heap s.heap [] := va_S.rf
  have hl := lv_entry ([.ref (ad this), .int p0, .ref (ad p1), .int p2]) (n := 4) (Nat.le_of_ble_eq_true rfl)
  rw [lg_entry_eq]
  generalize (lg_sl ([.ref (ad this), .int p0, .ref (ad p1), .int p2]) ++ List.replicate (4 - (lg_sl ([.ref (ad this), .int p0, .ref (ad p1), .int p2])).length) Slot.unset).toArray = ls at hl ⊢
  exact bm_X10_standsIn this p0 p1 p2 hk_this hk_p1 r hr hx hb hml hown hts hA hK hW hT hP hD hS hl (fun pc ls rz ws H locs he hz hd hW hT hP hD hS => by cases he; exact W.zret (v := r) hx hb hrt (z_nb hz) (fun t ht hW9 => ⟨⟨r, ws, rfl, ⟨rfl, hW, hT⟩, by rw [ht]; exact hP, va_K.moved hW9.alike hK, hD⟩, hS.F ht⟩) hS.2.2 hd)
set_option maxHeartbeats 4000000 in
set_option maxRecDepth 100000 in
theorem bm_X10_endsAlike {p : Program} {l : Launch} {e : Env} {s : State} {m : MethodId} {args : Array Value} {below : List Frame} {meth : Method} {c : Code} {Q : State → Prop} {A : Nat → Prop} {dC : Nat → ClassId} {dI : Nat → Nat → Nat} {kk : Nat → ClassId} {ad : Nat → Nat} {ws : va_W} {G : Nat → Nat → Int32} {P : Nat → Nat → Option Nat} {U : Nat → Nat → Int64} {V : Nat → Nat → Nat → Int32} {X : Nat → Nat → Nat → Int64} {O : Nat → Nat → Nat → Option Nat} {kd : Nat → Nat} {ln : Nat → Nat} {cnt : Nat} {H : Heap} {locs : List Loc} {ls : Array Slot} (this : Nat) (p0 : Int32) (p1 : Nat) (p2 : Int32) (hk_this : kd this = 11) (hk_p1 : kd p1 = 11) (r : Int32) (hr : f_X10_endsAlike G P U V X O kd ln cnt this p0 p1 p2 = some r) (hx : p.tables.exec = Jvm.exec) (hb : c.code = cX10_endsAlike) (hml : c.maxLocals = 6) (hown : s.vm.findClass RX10 = some m.cls) (hts : ∀ w ∈ vmX10_endsAlike, w.before args s = true) (hA : ∀ q : Nat, s.heap.size ≤ q → A q) (hK : va_K (dC, dI) vwCl (cT kk) s) (hW : LW ws ad kk kd ln G P U V X O) (hT : TYP kd P O (V 0) cnt) (hP : va_P (dC, dI) vwCl ws H) (hD : va_D A ws) (hS : va_S A s.heap H locs) (hl : lv_has ls 6 [(0, .ref (ad this)), (1, .int p0), (2, .ref (ad p1)), (3, .int p2)])
    (K : ∀ (pc : Nat) (ls : Array Slot) (rz : Int32) (ws : va_W) (H : Heap) (locs : List Loc), some rz = some r → is01 rz → decode cX10_endsAlike pc = .ok (.ireturn, 1) → LW ws ad kk kd ln G P U V X O → TYP kd P O (V 0) cnt → va_P (dC, dI) vwCl ws H → va_D A ws → va_S A s.heap H locs → W p l e ({ frames := 3, cells := 0, slots := 0, locals := 85 } : Room) s m args below meth c H locs 0 0 Q (F0 m pc ls [.int rz])) : W p l e ({ frames := 3, cells := 0, slots := 0, locals := 85 } : Room) s m args below meth c H locs 0 0 Q (F0 m 0 ls []) := by
  unfold f_X10_endsAlike at hr
  refine lv_aload_n hx hb dX10_endsAlike_0 rfl (lv_at hl 0 rfl) ?_
  obtain ⟨i1, hi1⟩ := hW.o10 hk_this
  replace hr := nnS hr
  obtain ⟨a1, hn1, hr⟩ := hr
  have hk_a1 : kd a1 = 101 := hT.1 202 _ _ hn1
  refine va_get (D := (dC, dI)) (ci := 10) (v := .ref (ad a1)) (C := RX10) (T := TX10) (N := 4) hx hb hts inX10 hown hK hP i1 hi1 rfl 2 (by decide) (hts (.fieldLink RX10 22 "SpellTurner$WordRow" "lengths" "[I") ic_6) (fun _ h9 => h9) (congrArg (fun o => some (va_re ad o)) hn1) dX10_endsAlike_1 ?_
  refine lv_iload_n hx hb dX10_endsAlike_4 rfl (lv_at hl 1 rfl) ?_
  obtain ⟨i2, hi2⟩ := hW.v1 hk_a1
  replace hr := iteS hr
  obtain ⟨hi5, hr⟩ := hr
  refine va_iald (f := ((V 1) a1)) hx hb hK hP i2 1 hi2 rfl (inbV hi5) dX10_endsAlike_5 ?_
  refine lv_topi (fun x6 ex6 => ?_)
  replace hr := vlS hr x6 ex6
  clear ex6
  refine lv_istore (lv' := [(4, .int x6), (0, .ref (ad this)), (1, .int p0), (2, .ref (ad p1)), (3, .int p2)]) hx hb dX10_endsAlike_6 hl (by decide) rfl (fun ls hl => ?_)
  refine lv_aload_n hx hb dX10_endsAlike_8 rfl (lv_at hl 3 rfl) ?_
  obtain ⟨i3, hi3⟩ := hW.o10 hk_p1
  replace hr := nnS hr
  obtain ⟨a9, hn9, hr⟩ := hr
  have hk_a9 : kd a9 = 101 := hT.1 202 _ _ hn9
  refine va_get (D := (dC, dI)) (ci := 10) (v := .ref (ad a9)) (C := RX10) (T := TX10) (N := 4) hx hb hts inX10 hown hK hP i3 hi3 rfl 2 (by decide) (hts (.fieldLink RX10 22 "SpellTurner$WordRow" "lengths" "[I") ic_6) (fun _ h9 => h9) (congrArg (fun o => some (va_re ad o)) hn9) dX10_endsAlike_9 ?_
  refine lv_iload_n hx hb dX10_endsAlike_12 rfl (lv_at hl 4 rfl) ?_
  obtain ⟨i4, hi4⟩ := hW.v1 hk_a9
  replace hr := iteS hr
  obtain ⟨hi13, hr⟩ := hr
  refine va_iald (f := ((V 1) a9)) hx hb hK hP i4 1 hi4 rfl (inbV hi13) dX10_endsAlike_13 ?_
  refine lv_topi (fun x14 ex14 => ?_)
  replace hr := vlS hr x14 ex14
  clear ex14
  refine lv_istore (lv' := [(5, .int x14), (4, .int x6), (0, .ref (ad this)), (1, .int p0), (2, .ref (ad p1)), (3, .int p2)]) hx hb dX10_endsAlike_14 hl (by decide) rfl (fun ls hl => ?_)
  refine lv_iload hx hb dX10_endsAlike_16 (lv_at hl 1 rfl) ?_
  refine lv_iconst (v := 3) hx hb dX10_endsAlike_18 (by decide +kernel) ?_
  replace hr := jnS hr
  obtain ⟨j28, hj28, hr⟩ := hr
  have Jj28 : ∀ (ws : va_W) (H : Heap) (locs : List Loc) (ls : Array Slot), j28 () = some r → LW ws ad kk kd ln G P U V X O → TYP kd P O (V 0) cnt → va_P (dC, dI) vwCl ws H → va_D A ws → va_S A s.heap H locs → lv_has ls 6 [] → W p l e ({ frames := 3, cells := 0, slots := 0, locals := 85 } : Room) s m args below meth c H locs 0 0 Q (F0 m 28 ls []) := by
    intro ws H locs ls hr hW hT hP hD hS hl
    rw [hj28] at hr
    refine lv_iconst (v := 0) hx hb dX10_endsAlike_28 (by decide +kernel) ?_
    exact K 29 ls _ ws H _ hr (by decide) dX10_endsAlike_29 hW hT hP hD hS
  refine lv_icmp_lt (tgt := 28) hx hb dX10_endsAlike_19 (by decide) (fun c19 => ?_) (fun c19 => ?_)
  · replace hr := iteT c19 hr
    exact Jj28 ws H _ ls hr hW hT hP hD hS (lv_sub hl [] rfl)
  · replace hr := iteF c19 hr
    refine lv_iload hx hb dX10_endsAlike_22 (lv_at hl 0 rfl) ?_
    refine lv_iconst (v := 3) hx hb dX10_endsAlike_24 (by decide +kernel) ?_
    refine lv_icmp_ge (tgt := 30) hx hb dX10_endsAlike_25 (by decide) (fun c25 => ?_) (fun c25 => ?_)
    · replace hr := iteT c25 hr
      refine lv_aload_n hx hb dX10_endsAlike_30 rfl (lv_at hl 2 rfl) ?_
      obtain ⟨i5, hi5⟩ := hW.o10 hk_this
      replace hr := nnS hr
      obtain ⟨a31, hn31, hr⟩ := hr
      have hk_a31 : kd a31 = 100 := hT.1 201 _ _ hn31
      refine va_get (D := (dC, dI)) (ci := 10) (v := .ref (ad a31)) (C := RX10) (T := TX10) (N := 4) hx hb hts inX10 hown hK hP i5 hi5 rfl 1 (by decide) (hts (.fieldLink RX10 18 "SpellTurner$WordRow" "letters" "[B") ic_14) (fun _ h9 => h9) (congrArg (fun o => some (va_re ad o)) hn31) dX10_endsAlike_31 ?_
      refine lv_iload_n hx hb dX10_endsAlike_34 rfl (lv_at hl 3 rfl) ?_
      refine lv_aload_n hx hb dX10_endsAlike_35 rfl (lv_at hl 2 rfl) ?_
      obtain ⟨i6, hi6⟩ := hW.o10 hk_this
      refine va_get (D := (dC, dI)) (ci := 10) (v := .int ((G 200) this)) (C := RX10) (T := TX10) (N := 4) hx hb hts inX10 hown hK hP i6 hi6 rfl 0 (by decide) (hts (.fieldLink RX10 15 "SpellTurner$WordRow" "width" "I") ic_13) (fun _ h9 => h9) rfl dX10_endsAlike_36 ?_
      refine lv_imul hx hb dX10_endsAlike_39 ?_
      refine lv_iload hx hb dX10_endsAlike_40 (lv_at hl 1 rfl) ?_
      refine lv_iadd hx hb dX10_endsAlike_42 ?_
      refine lv_iconst (v := 3) hx hb dX10_endsAlike_43 (by decide +kernel) ?_
      refine lv_isub hx hb dX10_endsAlike_44 ?_
      refine lv_aload_n hx hb dX10_endsAlike_45 rfl (lv_at hl 4 rfl) ?_
      obtain ⟨i7, hi7⟩ := hW.o10 hk_p1
      replace hr := nnS hr
      obtain ⟨a46, hn46, hr⟩ := hr
      have hk_a46 : kd a46 = 100 := hT.1 201 _ _ hn46
      refine va_get (D := (dC, dI)) (ci := 10) (v := .ref (ad a46)) (C := RX10) (T := TX10) (N := 4) hx hb hts inX10 hown hK hP i7 hi7 rfl 1 (by decide) (hts (.fieldLink RX10 18 "SpellTurner$WordRow" "letters" "[B") ic_14) (fun _ h9 => h9) (congrArg (fun o => some (va_re ad o)) hn46) dX10_endsAlike_46 ?_
      refine lv_iload_n hx hb dX10_endsAlike_49 rfl (lv_at hl 5 rfl) ?_
      refine lv_aload_n hx hb dX10_endsAlike_50 rfl (lv_at hl 4 rfl) ?_
      obtain ⟨i8, hi8⟩ := hW.o10 hk_p1
      refine va_get (D := (dC, dI)) (ci := 10) (v := .int ((G 200) p1)) (C := RX10) (T := TX10) (N := 4) hx hb hts inX10 hown hK hP i8 hi8 rfl 0 (by decide) (hts (.fieldLink RX10 15 "SpellTurner$WordRow" "width" "I") ic_13) (fun _ h9 => h9) rfl dX10_endsAlike_51 ?_
      refine lv_imul hx hb dX10_endsAlike_54 ?_
      refine lv_iload hx hb dX10_endsAlike_55 (lv_at hl 0 rfl) ?_
      refine lv_iadd hx hb dX10_endsAlike_57 ?_
      refine lv_iconst (v := 3) hx hb dX10_endsAlike_58 (by decide +kernel) ?_
      refine lv_isub hx hb dX10_endsAlike_59 ?_
      refine lv_iconst (v := 3) hx hb dX10_endsAlike_60 (by decide +kernel) ?_
      replace hr := b1S hr
      obtain ⟨r61z, hc61, hr⟩ := hr
      have hFc := fr_all hD hS hA
      refine va_calli (va_runS (As := [.ref (ad a31), .int (((p0 * ((G 200) this)) + x6) - 3), .ref (ad a46), .int (((p2 * ((G 200) p1)) + x14) - 3), .int 3]) (rest := []) ⟨hx, hb, hml, hown, hts⟩ (m_X10_same l dC dI kk ad H.size ws G P U V X O kd ln cnt a31 (((p0 * ((G 200) this)) + x6) - 3) a46 (((p2 * ((G 200) p1)) + x14) - 3) 3 hk_a31 hk_a46 hW hT r61z hc61) (va_cwS 5 hts gc_RX10_X10_same_44 rfl rfl rfl (by decide +kernel) ⟨Nat.le_of_ble_eq_true rfl, Nat.le_of_ble_eq_true rfl⟩) ⟨fun a U g mk q => by obtain ⟨q0, q1, qP, qK, qD⟩ := q; exact ⟨q0, q1, qP, va_K.moved (u := U) (U := U.calling g mk a) (Vm.Alike.refl U.vm) qK, qD⟩, fun U hU hW => ⟨rfl, by rw [hU], by rw [hU]; exact hP, va_K.moved hW.alike hK, hD.weaken (fun _ _ _ _ => trivial)⟩⟩ rfl rfl hl.1 rfl (lv_room (Nat.le_of_ble_eq_true rfl)) dX10_endsAlike_61 ⟨Nat.le_of_ble_eq_true rfl, Nat.le_of_ble_eq_true rfl⟩) hS (fun q _ h => hFc q h) hFc (fun r61 w9 t H1 locs ht hvm hw hB hz1 hk1 hS => ?_)
      obtain ⟨hw0, hW, hT⟩ := hw
      replace hw0 : r61 = r61z := hw0
      subst hw0
      obtain ⟨hP1, hK1, hD1⟩ := hB
      rw [ht] at hP1
      obtain ⟨hP, hD⟩ := jn_all (w1 := w9) hFc hP1 hD1
      replace hP : va_P (dC, dI) vwCl w9 H1 := hP
      replace hD : va_D A w9 := hD
      clear hFc hP1 hK1 hD1 hk1 hz1 ht hvm
      generalize H1 = H at hP hS ⊢
      replace hr := iteS hr
      obtain ⟨hz64, hr⟩ := hr
      exact K 64 ls _ w9 H _ hr hz64 dX10_endsAlike_64 hW hT hP hD hS
    · replace hr := iteF c25 hr
      exact Jj28 ws H _ ls hr hW hT hP hD hS (lv_sub hl [] rfl)
set_option maxHeartbeats 4000000 in
set_option maxRecDepth 100000 in
theorem m_X10_endsAlike (l : Launch) (dC : Nat → ClassId) (dI : Nat → Nat → Nat) (kk : Nat → ClassId) (ad : Nat → Nat) (sz : Nat) (ws : va_W) (G : Nat → Nat → Int32) (P : Nat → Nat → Option Nat) (U : Nat → Nat → Int64) (V : Nat → Nat → Nat → Int32) (X : Nat → Nat → Nat → Int64) (O : Nat → Nat → Nat → Option Nat) (kd : Nat → Nat) (ln : Nat → Nat) (cnt : Nat) (this : Nat) (p0 : Int32) (p1 : Nat) (p2 : Int32) (hk_this : kd this = 11) (hk_p1 : kd p1 = 11) (hW : LW ws ad kk kd ln G P U V X O) (hT : TYP kd P O (V 0) cnt) (r : Int32) (hr : f_X10_endsAlike G P U V X O kd ln cnt this p0 p1 p2 = some r) : Met l yX10_endsAlike vmX10_endsAlike ({ frames := 3, cells := 0, slots := 0, locals := 85 } : Room) (va_Pc [.ref (ad this), .int p0, .ref (ad p1), .int p2] (fun U => U.heap.size = sz ∧ va_P (dC, dI) vwCl ws U.heap ∧ va_K (dC, dI) vwCl (cT kk) U ∧ va_D (fun _ => True) ws)) (va_Qi (fun (rz : Int32) (w : va_W) => rz = r ∧ LW w ad kk kd ln G P U V X O ∧ TYP kd P O (V 0) cnt) (fun w t => va_P (dC, dI) vwCl w t.heap ∧ va_K (dC, dI) vwCl (cT kk) t ∧ va_D (va_A ws sz) w) (va_A ws sz)) 0 0 (va_A ws sz) := by
  refine Met.ofW (cc := cX10_endsAlike) (maxL := 6) (ret := (some .boolean)) (by decide) rfl ?_
  intro p e s m args below meth c s₁ B hml hv
  obtain ⟨rfl, hsz, hP, hK, hD0⟩ := hv
  have hx := B.exec
  have hb := B.bytes
  have hrt := B.returns
  have hts := atoms_spec (ws := vmX10_endsAlike) B.pre
  have hown : s.vm.findClass RX10 = some m.cls := findClass_of_methodNamed B.named
  subst hsz
  have hD := hD0.self (sz := s.heap.size)
  generalize hAe : va_A ws s.heap.size = A at hD ⊢
  have hA : ∀ q : Nat, s.heap.size ≤ q → A q := fun q h => by rw [← hAe]; exact Or.inr h
  have hS : va_S A s.heap s.heap [] := va_S.rf
  have hl := lv_entry ([.ref (ad this), .int p0, .ref (ad p1), .int p2]) (n := 6) (Nat.le_of_ble_eq_true rfl)
  rw [lg_entry_eq]
  generalize (lg_sl ([.ref (ad this), .int p0, .ref (ad p1), .int p2]) ++ List.replicate (6 - (lg_sl ([.ref (ad this), .int p0, .ref (ad p1), .int p2])).length) Slot.unset).toArray = ls at hl ⊢
  exact bm_X10_endsAlike this p0 p1 p2 hk_this hk_p1 r hr hx hb hml hown hts hA hK hW hT hP hD hS hl (fun pc ls rz ws H locs he hz hd hW hT hP hD hS => by cases he; exact W.zret (v := r) hx hb hrt (z_nb hz) (fun t ht hW9 => ⟨⟨r, ws, rfl, ⟨rfl, hW, hT⟩, by rw [ht]; exact hP, va_K.moved hW9.alike hK, hD⟩, hS.F ht⟩) hS.2.2 hd)
set_option maxHeartbeats 4000000 in
set_option maxRecDepth 100000 in
theorem bm_X10_letterAt {p : Program} {l : Launch} {e : Env} {s : State} {m : MethodId} {args : Array Value} {below : List Frame} {meth : Method} {c : Code} {Q : State → Prop} {A : Nat → Prop} {dC : Nat → ClassId} {dI : Nat → Nat → Nat} {kk : Nat → ClassId} {ad : Nat → Nat} {ws : va_W} {G : Nat → Nat → Int32} {P : Nat → Nat → Option Nat} {U : Nat → Nat → Int64} {V : Nat → Nat → Nat → Int32} {X : Nat → Nat → Nat → Int64} {O : Nat → Nat → Nat → Option Nat} {kd : Nat → Nat} {ln : Nat → Nat} {cnt : Nat} {H : Heap} {locs : List Loc} {ls : Array Slot} (this : Nat) (p0 : Int32) (p1 : Int32) (hk_this : kd this = 11) (r : Int32) (hr : f_X10_letterAt G P U V X O kd ln cnt this p0 p1 = some r) (hx : p.tables.exec = Jvm.exec) (hb : c.code = cX10_letterAt) (hml : c.maxLocals = 3) (hown : s.vm.findClass RX10 = some m.cls) (hts : ∀ w ∈ vmX10_letterAt, w.before args s = true) (hA : ∀ q : Nat, s.heap.size ≤ q → A q) (hK : va_K (dC, dI) vwCl (cT kk) s) (hW : LW ws ad kk kd ln G P U V X O) (hT : TYP kd P O (V 0) cnt) (hP : va_P (dC, dI) vwCl ws H) (hD : va_D A ws) (hS : va_S A s.heap H locs) (hl : lv_has ls 3 [(0, .ref (ad this)), (1, .int p0), (2, .int p1)])
    (K : ∀ (pc : Nat) (ls : Array Slot) (rz : Int32) (ws : va_W) (H : Heap) (locs : List Loc), some rz = some r → decode cX10_letterAt pc = .ok (.ireturn, 1) → LW ws ad kk kd ln G P U V X O → TYP kd P O (V 0) cnt → va_P (dC, dI) vwCl ws H → va_D A ws → va_S A s.heap H locs → W p l e ({ frames := 2, cells := 0, slots := 0, locals := 60 } : Room) s m args below meth c H locs 0 0 Q (F0 m pc ls [.int rz])) : W p l e ({ frames := 2, cells := 0, slots := 0, locals := 60 } : Room) s m args below meth c H locs 0 0 Q (F0 m 0 ls []) := by
  unfold f_X10_letterAt at hr
  refine lv_iload_n hx hb dX10_letterAt_0 rfl (lv_at hl 1 rfl) ?_
  replace hr := jnS hr
  obtain ⟨j26, hj26, hr⟩ := hr
  have Jj26 : ∀ (ws : va_W) (H : Heap) (locs : List Loc) (ls : Array Slot), j26 () = some r → LW ws ad kk kd ln G P U V X O → TYP kd P O (V 0) cnt → va_P (dC, dI) vwCl ws H → va_D A ws → va_S A s.heap H locs → lv_has ls 3 [] → W p l e ({ frames := 2, cells := 0, slots := 0, locals := 60 } : Room) s m args below meth c H locs 0 0 Q (F0 m 26 ls []) := by
    intro ws H locs ls hr hW hT hP hD hS hl
    rw [hj26] at hr
    refine lv_iconst (v := (-1)) hx hb dX10_letterAt_26 (by decide +kernel) ?_
    exact K 27 ls _ ws H _ hr dX10_letterAt_27 hW hT hP hD hS
  refine lv_if_lt (tgt := 26) hx hb dX10_letterAt_1 (by decide) (fun c1 => ?_) (fun c1 => ?_)
  · replace hr := iteT c1 hr
    exact Jj26 ws H _ ls hr hW hT hP hD hS (lv_sub hl [] rfl)
  · replace hr := iteF c1 hr
    refine lv_iload_n hx hb dX10_letterAt_4 rfl (lv_at hl 1 rfl) ?_
    refine lv_aload_n hx hb dX10_letterAt_5 rfl (lv_at hl 0 rfl) ?_
    obtain ⟨i1, hi1⟩ := hW.o10 hk_this
    refine va_get (D := (dC, dI)) (ci := 10) (v := .int ((G 203) this)) (C := RX10) (T := TX10) (N := 4) hx hb hts inX10 hown hK hP i1 hi1 rfl 3 (by decide) (hts (.fieldLink RX10 9 "SpellTurner$WordRow" "count" "I") ic_5) (fun _ h9 => h9) rfl dX10_letterAt_6 ?_
    refine lv_icmp_ge (tgt := 26) hx hb dX10_letterAt_9 (by decide) (fun c9 => ?_) (fun c9 => ?_)
    · replace hr := iteT c9 hr
      exact Jj26 ws H _ ls hr hW hT hP hD hS (lv_sub hl [] rfl)
    · replace hr := iteF c9 hr
      refine lv_iload_n hx hb dX10_letterAt_12 rfl (lv_at hl 2 rfl) ?_
      refine lv_if_lt (tgt := 26) hx hb dX10_letterAt_13 (by decide) (fun c13 => ?_) (fun c13 => ?_)
      · replace hr := iteT c13 hr
        exact Jj26 ws H _ ls hr hW hT hP hD hS (lv_sub hl [] rfl)
      · replace hr := iteF c13 hr
        refine lv_iload_n hx hb dX10_letterAt_16 rfl (lv_at hl 2 rfl) ?_
        refine lv_aload_n hx hb dX10_letterAt_17 rfl (lv_at hl 0 rfl) ?_
        obtain ⟨i2, hi2⟩ := hW.o10 hk_this
        replace hr := nnS hr
        obtain ⟨a18, hn18, hr⟩ := hr
        have hk_a18 : kd a18 = 101 := hT.1 202 _ _ hn18
        refine va_get (D := (dC, dI)) (ci := 10) (v := .ref (ad a18)) (C := RX10) (T := TX10) (N := 4) hx hb hts inX10 hown hK hP i2 hi2 rfl 2 (by decide) (hts (.fieldLink RX10 22 "SpellTurner$WordRow" "lengths" "[I") ic_6) (fun _ h9 => h9) (congrArg (fun o => some (va_re ad o)) hn18) dX10_letterAt_18 ?_
        refine lv_iload_n hx hb dX10_letterAt_21 rfl (lv_at hl 1 rfl) ?_
        obtain ⟨i3, hi3⟩ := hW.v1 hk_a18
        replace hr := iteS hr
        obtain ⟨hi22, hr⟩ := hr
        refine va_iald (f := ((V 1) a18)) hx hb hK hP i3 1 hi3 rfl (inbV hi22) dX10_letterAt_22 ?_
        refine lv_icmp_lt (tgt := 28) hx hb dX10_letterAt_23 (by decide) (fun c23 => ?_) (fun c23 => ?_)
        · replace hr := iteT c23 hr
          refine lv_aload_n hx hb dX10_letterAt_28 rfl (lv_at hl 0 rfl) ?_
          obtain ⟨i4, hi4⟩ := hW.o10 hk_this
          replace hr := nnS hr
          obtain ⟨a29, hn29, hr⟩ := hr
          have hk_a29 : kd a29 = 100 := hT.1 201 _ _ hn29
          refine va_get (D := (dC, dI)) (ci := 10) (v := .ref (ad a29)) (C := RX10) (T := TX10) (N := 4) hx hb hts inX10 hown hK hP i4 hi4 rfl 1 (by decide) (hts (.fieldLink RX10 18 "SpellTurner$WordRow" "letters" "[B") ic_14) (fun _ h9 => h9) (congrArg (fun o => some (va_re ad o)) hn29) dX10_letterAt_29 ?_
          refine lv_iload_n hx hb dX10_letterAt_32 rfl (lv_at hl 1 rfl) ?_
          refine lv_aload_n hx hb dX10_letterAt_33 rfl (lv_at hl 0 rfl) ?_
          obtain ⟨i5, hi5⟩ := hW.o10 hk_this
          refine va_get (D := (dC, dI)) (ci := 10) (v := .int ((G 200) this)) (C := RX10) (T := TX10) (N := 4) hx hb hts inX10 hown hK hP i5 hi5 rfl 0 (by decide) (hts (.fieldLink RX10 15 "SpellTurner$WordRow" "width" "I") ic_13) (fun _ h9 => h9) rfl dX10_letterAt_34 ?_
          refine lv_imul hx hb dX10_letterAt_37 ?_
          refine lv_iload_n hx hb dX10_letterAt_38 rfl (lv_at hl 2 rfl) ?_
          refine lv_iadd hx hb dX10_letterAt_39 ?_
          obtain ⟨i6, hi6⟩ := hW.v0 hk_a29
          replace hr := iteS hr
          obtain ⟨hi40, hr⟩ := hr
          refine va_bald (f := ((V 0) a29)) hx hb hK hP i6 0 hi6 rfl (inbV hi40) dX10_letterAt_40 ?_
          exact K 41 ls _ ws H _ hr dX10_letterAt_41 hW hT hP hD hS
        · replace hr := iteF c23 hr
          exact Jj26 ws H _ ls hr hW hT hP hD hS (lv_sub hl [] rfl)
set_option maxHeartbeats 4000000 in
set_option maxRecDepth 100000 in
theorem m_X10_letterAt (l : Launch) (dC : Nat → ClassId) (dI : Nat → Nat → Nat) (kk : Nat → ClassId) (ad : Nat → Nat) (sz : Nat) (ws : va_W) (G : Nat → Nat → Int32) (P : Nat → Nat → Option Nat) (U : Nat → Nat → Int64) (V : Nat → Nat → Nat → Int32) (X : Nat → Nat → Nat → Int64) (O : Nat → Nat → Nat → Option Nat) (kd : Nat → Nat) (ln : Nat → Nat) (cnt : Nat) (this : Nat) (p0 : Int32) (p1 : Int32) (hk_this : kd this = 11) (hW : LW ws ad kk kd ln G P U V X O) (hT : TYP kd P O (V 0) cnt) (r : Int32) (hr : f_X10_letterAt G P U V X O kd ln cnt this p0 p1 = some r) : Met l yX10_letterAt vmX10_letterAt ({ frames := 2, cells := 0, slots := 0, locals := 60 } : Room) (va_Pc [.ref (ad this), .int p0, .int p1] (fun U => U.heap.size = sz ∧ va_P (dC, dI) vwCl ws U.heap ∧ va_K (dC, dI) vwCl (cT kk) U ∧ va_D (fun _ => True) ws)) (va_Qi (fun (rz : Int32) (w : va_W) => rz = r ∧ LW w ad kk kd ln G P U V X O ∧ TYP kd P O (V 0) cnt) (fun w t => va_P (dC, dI) vwCl w t.heap ∧ va_K (dC, dI) vwCl (cT kk) t ∧ va_D (va_A ws sz) w) (va_A ws sz)) 0 0 (va_A ws sz) := by
  refine Met.ofW (cc := cX10_letterAt) (maxL := 3) (ret := (some .int)) (by decide) rfl ?_
  intro p e s m args below meth c s₁ B hml hv
  obtain ⟨rfl, hsz, hP, hK, hD0⟩ := hv
  have hx := B.exec
  have hb := B.bytes
  have hrt := B.returns
  have hts := atoms_spec (ws := vmX10_letterAt) B.pre
  have hown : s.vm.findClass RX10 = some m.cls := findClass_of_methodNamed B.named
  subst hsz
  have hD := hD0.self (sz := s.heap.size)
  generalize hAe : va_A ws s.heap.size = A at hD ⊢
  have hA : ∀ q : Nat, s.heap.size ≤ q → A q := fun q h => by rw [← hAe]; exact Or.inr h
  have hS : va_S A s.heap s.heap [] := va_S.rf
  have hl := lv_entry ([.ref (ad this), .int p0, .int p1]) (n := 3) (Nat.le_of_ble_eq_true rfl)
  rw [lg_entry_eq]
  generalize (lg_sl ([.ref (ad this), .int p0, .int p1]) ++ List.replicate (3 - (lg_sl ([.ref (ad this), .int p0, .int p1])).length) Slot.unset).toArray = ls at hl ⊢
  exact bm_X10_letterAt this p0 p1 hk_this r hr hx hb hml hown hts hA hK hW hT hP hD hS hl (fun pc ls rz ws H locs he hd hW hT hP hD hS => by cases he; exact W.iret (v := r) hx hb hrt (fun t ht hW9 => ⟨⟨r, ws, rfl, ⟨rfl, hW, hT⟩, by rw [ht]; exact hP, va_K.moved hW9.alike hK, hD⟩, hS.F ht⟩) hS.2.2 hd)
set_option maxHeartbeats 4000000 in
set_option maxRecDepth 100000 in
theorem bm_X7_take {p : Program} {l : Launch} {e : Env} {s : State} {m : MethodId} {args : Array Value} {below : List Frame} {meth : Method} {c : Code} {Q : State → Prop} {A : Nat → Prop} {dC : Nat → ClassId} {dI : Nat → Nat → Nat} {kk : Nat → ClassId} {ad : Nat → Nat} {ws : va_W} {G : Nat → Nat → Int32} {P : Nat → Nat → Option Nat} {U : Nat → Nat → Int64} {V : Nat → Nat → Nat → Int32} {X : Nat → Nat → Nat → Int64} {O : Nat → Nat → Nat → Option Nat} {kd : Nat → Nat} {ln : Nat → Nat} {cnt : Nat} {H : Heap} {locs : List Loc} {ls : Array Slot} (this : Nat) (hk_this : kd this = 8) (r : Int32) (c_G141 : Nat → Int32) (hr : f_X7_take G P U V X O kd ln cnt this = some (r, c_G141)) (hx : p.tables.exec = Jvm.exec) (hb : c.code = cX7_take) (hml : c.maxLocals = 2) (hown : s.vm.findClass RX7 = some m.cls) (hts : ∀ w ∈ vmX7_take, w.before args s = true) (hA : ∀ q : Nat, s.heap.size ≤ q → A q) (hK : va_K (dC, dI) vwCl (cT kk) s) (hW : LW ws ad kk kd ln G P U V X O) (hT : TYP kd P O (V 0) cnt) (hP : va_P (dC, dI) vwCl ws H) (hD : va_D A ws) (hS : va_S A s.heap H locs) (hl : lv_has ls 2 [(0, .ref (ad this))])
    (K : ∀ (pc : Nat) (ls : Array Slot) (rz : Int32) (c_G141z : Nat → Int32) (ws : va_W) (H : Heap) (locs : List Loc), some (rz, c_G141z) = some (r, c_G141) → decode cX7_take pc = .ok (.ireturn, 1) → LW ws ad kk kd ln (va_up G 141 c_G141z) P U V X O → TYP kd P O (V 0) cnt → va_P (dC, dI) vwCl ws H → va_D A ws → va_S A s.heap H locs → W p l e ({ frames := 2, cells := 0, slots := 0, locals := 60 } : Room) s m args below meth c H locs 0 0 Q (F0 m pc ls [.int rz])) : W p l e ({ frames := 2, cells := 0, slots := 0, locals := 60 } : Room) s m args below meth c H locs 0 0 Q (F0 m 0 ls []) := by
  unfold f_X7_take at hr
  refine lv_aload_n hx hb dX7_take_0 rfl (lv_at hl 0 rfl) ?_
  obtain ⟨i1, hi1⟩ := hW.o7 hk_this
  refine va_get (D := (dC, dI)) (ci := 7) (v := .int ((G 141) this)) (C := RX7) (T := TX7) (N := 2) hx hb hts inX7 hown hK hP i1 hi1 rfl 1 (by decide) (hts (.fieldLink RX7 15 "SpellTurner$Tape" "length" "I") ic_34) (fun _ h9 => h9) rfl dX7_take_1 ?_
  refine lv_topi (fun x4 ex4 => ?_)
  replace hr := vlS hr x4 ex4
  clear ex4
  refine lv_istore_n (lv' := [(1, .int x4), (0, .ref (ad this))]) hx hb dX7_take_4 rfl hl (by decide) rfl (fun ls hl => ?_)
  refine lv_aload_n hx hb dX7_take_5 rfl (lv_at hl 1 rfl) ?_
  refine lv_iconst (v := 0) hx hb dX7_take_6 (by decide +kernel) ?_
  obtain ⟨i2, hi2⟩ := hW.o7 hk_this
  refine va_put (D := (dC, dI)) (ci := 7) (v := .int 0) (ty := .int) (C := RX7) (T := TX7) (N := 2) hx hb hts inX7 tyX7 tyX7_ok nmX7 hown hK hP hD hS i2 hi2 rfl 1 (by decide) (hts (.fieldLink RX7 15 "SpellTurner$Tape" "length" "I") ic_34) (fun _ h9 => h9) rfl (by decide +kernel) rfl rfl (Nat.le_of_ble_eq_true rfl) dX7_take_7 (fun H locs hP2 hD2 hS => ?_)
  obtain ⟨m7, w3, em7, hP, hD, hW⟩ : ∃ (z : Nat → Int32) (w : va_W), z = (va_up (G 141) this 0) ∧ va_P (dC, dI) vwCl w H ∧ va_D A w ∧ LW w ad kk kd ln (va_up G 141 z) P U V X O := ⟨_, _, rfl, hP2, hD2, hW.setG hD hi2 (by rw [hk_this]; decide) 141 0 (by rw [hk_this]; rfl)⟩
  replace hr := vlS hr m7 em7
  clear em7
  refine lv_iload_n hx hb dX7_take_10 rfl (lv_at hl 0 rfl) ?_
  exact K 11 ls _ _ w3 H _ hr dX7_take_11 hW hT hP hD hS
set_option maxHeartbeats 4000000 in
set_option maxRecDepth 100000 in
theorem m_X7_take (l : Launch) (dC : Nat → ClassId) (dI : Nat → Nat → Nat) (kk : Nat → ClassId) (ad : Nat → Nat) (sz : Nat) (ws : va_W) (G : Nat → Nat → Int32) (P : Nat → Nat → Option Nat) (U : Nat → Nat → Int64) (V : Nat → Nat → Nat → Int32) (X : Nat → Nat → Nat → Int64) (O : Nat → Nat → Nat → Option Nat) (kd : Nat → Nat) (ln : Nat → Nat) (cnt : Nat) (this : Nat) (hk_this : kd this = 8) (hW : LW ws ad kk kd ln G P U V X O) (hT : TYP kd P O (V 0) cnt) (r : Int32) (c_G141 : Nat → Int32) (hr : f_X7_take G P U V X O kd ln cnt this = some (r, c_G141)) : Met l yX7_take vmX7_take ({ frames := 2, cells := 0, slots := 0, locals := 60 } : Room) (va_Pc [.ref (ad this)] (fun U => U.heap.size = sz ∧ va_P (dC, dI) vwCl ws U.heap ∧ va_K (dC, dI) vwCl (cT kk) U ∧ va_D (fun _ => True) ws)) (va_Qi (fun (rz : Int32) (w : va_W) => rz = r ∧ LW w ad kk kd ln (va_up G 141 c_G141) P U V X O ∧ TYP kd P O (V 0) cnt) (fun w t => va_P (dC, dI) vwCl w t.heap ∧ va_K (dC, dI) vwCl (cT kk) t ∧ va_D (va_A ws sz) w) (va_A ws sz)) 0 0 (va_A ws sz) := by
  refine Met.ofW (cc := cX7_take) (maxL := 2) (ret := (some .int)) (by decide) rfl ?_
  intro p e s m args below meth c s₁ B hml hv
  obtain ⟨rfl, hsz, hP, hK, hD0⟩ := hv
  have hx := B.exec
  have hb := B.bytes
  have hrt := B.returns
  have hts := atoms_spec (ws := vmX7_take) B.pre
  have hown : s.vm.findClass RX7 = some m.cls := findClass_of_methodNamed B.named
  subst hsz
  have hD := hD0.self (sz := s.heap.size)
  generalize hAe : va_A ws s.heap.size = A at hD ⊢
  have hA : ∀ q : Nat, s.heap.size ≤ q → A q := fun q h => by rw [← hAe]; exact Or.inr h
  have hS : va_S A s.heap s.heap [] := va_S.rf
  have hl := lv_entry ([.ref (ad this)]) (n := 2) (Nat.le_of_ble_eq_true rfl)
  rw [lg_entry_eq]
  generalize (lg_sl ([.ref (ad this)]) ++ List.replicate (2 - (lg_sl ([.ref (ad this)])).length) Slot.unset).toArray = ls at hl ⊢
  exact bm_X7_take this hk_this r c_G141 hr hx hb hml hown hts hA hK hW hT hP hD hS hl (fun pc ls rz c_G141z ws H locs he hd hW hT hP hD hS => by cases he; exact W.iret (v := r) hx hb hrt (fun t ht hW9 => ⟨⟨r, ws, rfl, ⟨rfl, hW, hT⟩, by rw [ht]; exact hP, va_K.moved hW9.alike hK, hD⟩, hS.F ht⟩) hS.2.2 hd)
set_option maxHeartbeats 4000000 in
set_option maxRecDepth 100000 in
theorem bm_X7_append {p : Program} {l : Launch} {e : Env} {s : State} {m : MethodId} {args : Array Value} {below : List Frame} {meth : Method} {c : Code} {Q : State → Prop} {A : Nat → Prop} {dC : Nat → ClassId} {dI : Nat → Nat → Nat} {kk : Nat → ClassId} {ad : Nat → Nat} {ws : va_W} {G : Nat → Nat → Int32} {P : Nat → Nat → Option Nat} {U : Nat → Nat → Int64} {V : Nat → Nat → Nat → Int32} {X : Nat → Nat → Nat → Int64} {O : Nat → Nat → Nat → Option Nat} {kd : Nat → Nat} {ln : Nat → Nat} {cnt : Nat} {H : Heap} {locs : List Loc} {ls : Array Slot} (this : Nat) (p0 : Int32) (hk_this : kd this = 8) (c_G141 : Nat → Int32) (c_V0 : Nat → Nat → Int32) (hr : f_X7_append G P U V X O kd ln cnt this p0 = some (c_G141, c_V0)) (hx : p.tables.exec = Jvm.exec) (hb : c.code = cX7_append) (hml : c.maxLocals = 3) (hown : s.vm.findClass RX7 = some m.cls) (hts : ∀ w ∈ vmX7_append, w.before args s = true) (hA : ∀ q : Nat, s.heap.size ≤ q → A q) (hK : va_K (dC, dI) vwCl (cT kk) s) (hW : LW ws ad kk kd ln G P U V X O) (hT : TYP kd P O (V 0) cnt) (hP : va_P (dC, dI) vwCl ws H) (hD : va_D A ws) (hS : va_S A s.heap H locs) (hl : lv_has ls 3 [(0, .ref (ad this)), (1, .int p0)])
    (K : ∀ (pc : Nat) (ls : Array Slot) (c_G141z : Nat → Int32) (c_V0z : Nat → Nat → Int32) (ws : va_W) (H : Heap) (locs : List Loc), some (c_G141z, c_V0z) = some (c_G141, c_V0) → decode cX7_append pc = .ok (.return_, 1) → LW ws ad kk kd ln (va_up G 141 c_G141z) P U (va_up V 0 c_V0z) X O → TYP kd P O c_V0z cnt → va_P (dC, dI) vwCl ws H → va_D A ws → va_S A s.heap H locs → W p l e ({ frames := 2, cells := 0, slots := 0, locals := 60 } : Room) s m args below meth c H locs 0 0 Q (F0 m pc ls [])) : W p l e ({ frames := 2, cells := 0, slots := 0, locals := 60 } : Room) s m args below meth c H locs 0 0 Q (F0 m 0 ls []) := by
  unfold f_X7_append at hr
  refine lv_bipush (v := 24) hx hb dX7_append_0 (by decide +kernel) ?_
  refine lv_istore_n (lv' := [(2, .int 24), (0, .ref (ad this)), (1, .int p0)]) hx hb dX7_append_2 rfl hl (by decide) rfl (fun ls hl => ?_)
  replace hr := jnS hr
  obtain ⟨k46, hk46, hr⟩ := hr
  have Jk46 : ∀ (c46_G141 : Nat → Int32) (c46_V0 : Nat → Nat → Int32) (ws : va_W) (H : Heap) (locs : List Loc) (ls : Array Slot), k46 c46_G141 c46_V0 = some (c_G141, c_V0) → LW ws ad kk kd ln (va_up G 141 c46_G141) P U (va_up V 0 c46_V0) X O → TYP kd P O c46_V0 cnt → va_P (dC, dI) vwCl ws H → va_D A ws → va_S A s.heap H locs → lv_has ls 3 [] → W p l e ({ frames := 2, cells := 0, slots := 0, locals := 60 } : Room) s m args below meth c H locs 0 0 Q (F0 m 46 ls []) := by
    intro c46_G141 c46_V0 ws H locs ls hr hW hT hP hD hS hl
    rw [hk46] at hr
    exact K 46 ls _ _ ws H _ hr dX7_append_46 hW hT hP hD hS
  have lp3 : ∀ (n3 : Nat), ∀ (y3_2 : Int32) (d3_G141 : Nat → Int32) (d3_V0 : Nat → Nat → Int32) (ws : va_W) (H : Heap) (locs : List Loc) (ls : Array Slot), L_X7_append_3 P ln this p0 k46 n3 y3_2 d3_G141 d3_V0 = some (c_G141, c_V0) → LW ws ad kk kd ln (va_up G 141 d3_G141) P U (va_up V 0 d3_V0) X O → TYP kd P O d3_V0 cnt → va_P (dC, dI) vwCl ws H → va_D A ws → va_S A s.heap H locs → lv_has ls 3 [(0, .ref (ad this)), (1, .int p0), (2, .int y3_2)] → W p l e ({ frames := 2, cells := 0, slots := 0, locals := 60 } : Room) s m args below meth c H locs 0 0 Q (F0 m 3 ls []) := by
    intro n3
    induction n3 with
    | zero => intro y3_2 d3_G141 d3_V0 ws H locs ls hr hW hT hP hD hS hl; exact nomatch (show none = some (c_G141, c_V0) from hr)
    | succ n3 ih3 =>
      intro y3_2 d3_G141 d3_V0 ws H locs ls hr hW hT hP hD hS hl
      replace hr : B_X7_append_3 P ln this p0 k46 (L_X7_append_3 P ln this p0 k46 n3) y3_2 d3_G141 d3_V0 = some (c_G141, c_V0) := hr
      unfold B_X7_append_3 at hr
      refine lv_iload_n hx hb dX7_append_3 rfl (lv_at hl 2 rfl) ?_
      refine lv_if_lt (tgt := 46) hx hb dX7_append_4 (by decide) (fun c4 => ?_) (fun c4 => ?_)
      · replace hr := iteT c4 hr
        exact Jk46 d3_G141 d3_V0 ws H _ ls hr hW hT hP hD hS (lv_sub hl [] rfl)
      · replace hr := iteF c4 hr
        refine lv_aload_n hx hb dX7_append_7 rfl (lv_at hl 0 rfl) ?_
        obtain ⟨i1, hi1⟩ := hW.o7 hk_this
        refine va_get (D := (dC, dI)) (ci := 7) (v := .int (d3_G141 this)) (C := RX7) (T := TX7) (N := 2) hx hb hts inX7 hown hK hP i1 hi1 rfl 1 (by decide) (hts (.fieldLink RX7 15 "SpellTurner$Tape" "length" "I") ic_34) (fun _ h9 => h9) rfl dX7_append_8 ?_
        refine lv_sipush (v := 2000) hx hb dX7_append_11 (by decide +kernel) ?_
        refine lv_icmp_ge (tgt := 46) hx hb dX7_append_14 (by decide) (fun c14 => ?_) (fun c14 => ?_)
        · replace hr := iteT c14 hr
          exact Jk46 d3_G141 d3_V0 ws H _ ls hr hW hT hP hD hS (lv_sub hl [] rfl)
        · replace hr := iteF c14 hr
          refine lv_aload_n hx hb dX7_append_17 rfl (lv_at hl 0 rfl) ?_
          obtain ⟨i2, hi2⟩ := hW.o7 hk_this
          replace hr := nnS hr
          obtain ⟨a18, hn18, hr⟩ := hr
          have hk_a18 : kd a18 = 100 := hT.1 140 _ _ hn18
          refine va_get (D := (dC, dI)) (ci := 7) (v := .ref (ad a18)) (C := RX7) (T := TX7) (N := 2) hx hb hts inX7 hown hK hP i2 hi2 rfl 0 (by decide) (hts (.fieldLink RX7 9 "SpellTurner$Tape" "bytes" "[B") ic_36) (fun _ h9 => h9) (congrArg (fun o => some (va_re ad o)) hn18) dX7_append_18 ?_
          refine lv_aload_n hx hb dX7_append_21 rfl (lv_at hl 0 rfl) ?_
          obtain ⟨i3, hi3⟩ := hW.o7 hk_this
          refine va_get (D := (dC, dI)) (ci := 7) (v := .int (d3_G141 this)) (C := RX7) (T := TX7) (N := 2) hx hb hts inX7 hown hK hP i3 hi3 rfl 1 (by decide) (hts (.fieldLink RX7 15 "SpellTurner$Tape" "length" "I") ic_34) (fun _ h9 => h9) rfl dX7_append_22 ?_
          refine lv_iload_n hx hb dX7_append_25 rfl (lv_at hl 1 rfl) ?_
          refine lv_iload_n hx hb dX7_append_26 rfl (lv_at hl 2 rfl) ?_
          refine lv_ishr hx hb dX7_append_27 ?_
          refine lv_i2b (v := (Int8.toInt32 (Int32.toInt8 (p0 >>> (y3_2 &&& 31))))) hx hb dX7_append_28 rfl ?_
          obtain ⟨i4, hi4⟩ := hW.v0 hk_a18
          replace hr := iteS hr
          obtain ⟨hi29, hr⟩ := hr
          refine va_bast (f := (d3_V0 a18)) hx hb hK hP hD hS i4 0 hi4 rfl (inbV hi29) dX7_append_29 (fun H locs hP2 hD2 hS => ?_)
          obtain ⟨m29, w5, em29, hP, hD, hW⟩ : ∃ (z : Nat → Nat → Int32) (w : va_W), z = (va_up d3_V0 a18 (upd (d3_V0 a18) (Int32.toNatClampNeg (d3_G141 this)) (vp_nar .byte (Int8.toInt32 (Int32.toInt8 (p0 >>> (y3_2 &&& 31))))))) ∧ va_P (dC, dI) vwCl w H ∧ va_D A w ∧ LW w ad kk kd ln (va_up G 141 d3_G141) P U (va_up (va_up V 0 d3_V0) 0 z) X O := ⟨_, _, rfl, hP2, hD2, hW.setV hD hi4 (by rw [hk_a18]; decide) 0 (upd (d3_V0 a18) (Int32.toNatClampNeg (d3_G141 this)) (vp_nar .byte (Int8.toInt32 (Int32.toInt8 (p0 >>> (y3_2 &&& 31)))))) (by rw [hk_a18]; rfl)⟩
          replace hT : TYP kd P O m29 cnt := by rw [em29]; exact hT.setB a18 _ (fit_upd (hT.2.2.1 a18) _ _)
          replace hr := vlS hr m29 em29
          clear em29
          refine lv_aload_n hx hb dX7_append_30 rfl (lv_at hl 0 rfl) ?_
          refine lv_dup hx hb dX7_append_31 rfl ?_
          obtain ⟨i6, hi6⟩ := hW.o7 hk_this
          refine va_get (D := (dC, dI)) (ci := 7) (v := .int (d3_G141 this)) (C := RX7) (T := TX7) (N := 2) hx hb hts inX7 hown hK hP i6 hi6 rfl 1 (by decide) (hts (.fieldLink RX7 15 "SpellTurner$Tape" "length" "I") ic_34) (fun _ h9 => h9) rfl dX7_append_32 ?_
          refine lv_iconst (v := 1) hx hb dX7_append_35 (by decide +kernel) ?_
          refine lv_iadd hx hb dX7_append_36 ?_
          refine lv_topi (fun x37 ex37 => ?_)
          replace hr := vlS hr x37 ex37
          clear ex37
          obtain ⟨i7, hi7⟩ := hW.o7 hk_this
          refine va_put (D := (dC, dI)) (ci := 7) (v := .int x37) (ty := .int) (C := RX7) (T := TX7) (N := 2) hx hb hts inX7 tyX7 tyX7_ok nmX7 hown hK hP hD hS i7 hi7 rfl 1 (by decide) (hts (.fieldLink RX7 15 "SpellTurner$Tape" "length" "I") ic_34) (fun _ h9 => h9) rfl (by decide +kernel) rfl rfl (Nat.le_of_ble_eq_true rfl) dX7_append_37 (fun H locs hP2 hD2 hS => ?_)
          obtain ⟨m37, w8, em37, hP, hD, hW⟩ : ∃ (z : Nat → Int32) (w : va_W), z = (va_up d3_G141 this x37) ∧ va_P (dC, dI) vwCl w H ∧ va_D A w ∧ LW w ad kk kd ln (va_up (va_up G 141 d3_G141) 141 z) P U (va_up (va_up V 0 d3_V0) 0 m29) X O := ⟨_, _, rfl, hP2, hD2, hW.setG hD hi7 (by rw [hk_this]; decide) 141 x37 (by rw [hk_this]; rfl)⟩
          replace hr := vlS hr m37 em37
          clear em37
          refine lv_iinc (v := (y3_2 + (-8))) (lv' := [(2, .int (y3_2 + (-8))), (0, .ref (ad this)), (1, .int p0)]) hx hb dX7_append_40 hl (k := 2) rfl rfl (by decide) rfl (fun ls hl => ?_)
          refine lv_goto (tgt := 3) hx hb dX7_append_43 (by decide) ?_
          have eG : (va_up (va_up G 141 d3_G141) 141 m37) = (va_up G 141 m37) := by
            funext k
            by_cases h141 : k = 141
            · subst h141; rfl
            · simp only [va_up, h141, if_false]
          rw [eG] at hW
          clear eG
          have eV : (va_up (va_up V 0 d3_V0) 0 m29) = (va_up V 0 m29) := by
            funext k
            by_cases h0 : k = 0
            · subst h0; rfl
            · simp only [va_up, h0, if_false]
          rw [eV] at hW
          clear eV
          exact ih3 (y3_2 + (-8)) m37 m29 w8 H _ ls hr hW hT hP hD hS (lv_sub hl [1, 2, 0] rfl)
  have eG : G = (va_up G 141 (G 141)) := by
    funext k
    by_cases h141 : k = 141
    · subst h141; rfl
    · simp only [va_up, h141, if_false]
  rw [eG] at hW
  clear eG
  have eV : V = (va_up V 0 (V 0)) := by
    funext k
    by_cases h0 : k = 0
    · subst h0; rfl
    · simp only [va_up, h0, if_false]
  rw [eV] at hW
  clear eV
  exact lp3 NN 24 (G 141) (V 0) ws H _ ls hr hW hT hP hD hS (lv_sub hl [1, 2, 0] rfl)
set_option maxHeartbeats 4000000 in
set_option maxRecDepth 100000 in
theorem m_X7_append (l : Launch) (dC : Nat → ClassId) (dI : Nat → Nat → Nat) (kk : Nat → ClassId) (ad : Nat → Nat) (sz : Nat) (ws : va_W) (G : Nat → Nat → Int32) (P : Nat → Nat → Option Nat) (U : Nat → Nat → Int64) (V : Nat → Nat → Nat → Int32) (X : Nat → Nat → Nat → Int64) (O : Nat → Nat → Nat → Option Nat) (kd : Nat → Nat) (ln : Nat → Nat) (cnt : Nat) (this : Nat) (p0 : Int32) (hk_this : kd this = 8) (hW : LW ws ad kk kd ln G P U V X O) (hT : TYP kd P O (V 0) cnt) (c_G141 : Nat → Int32) (c_V0 : Nat → Nat → Int32) (hr : f_X7_append G P U V X O kd ln cnt this p0 = some (c_G141, c_V0)) : Met l yX7_append vmX7_append ({ frames := 2, cells := 0, slots := 0, locals := 60 } : Room) (va_Pc [.ref (ad this), .int p0] (fun U => U.heap.size = sz ∧ va_P (dC, dI) vwCl ws U.heap ∧ va_K (dC, dI) vwCl (cT kk) U ∧ va_D (fun _ => True) ws)) (va_Qv (fun w => LW w ad kk kd ln (va_up G 141 c_G141) P U (va_up V 0 c_V0) X O ∧ TYP kd P O c_V0 cnt) (fun w t => va_P (dC, dI) vwCl w t.heap ∧ va_K (dC, dI) vwCl (cT kk) t ∧ va_D (va_A ws sz) w) (va_A ws sz)) 0 0 (va_A ws sz) := by
  refine Met.ofW (cc := cX7_append) (maxL := 3) (ret := none) (by decide) rfl ?_
  intro p e s m args below meth c s₁ B hml hv
  obtain ⟨rfl, hsz, hP, hK, hD0⟩ := hv
  have hx := B.exec
  have hb := B.bytes
  have hrt := B.returns
  have hts := atoms_spec (ws := vmX7_append) B.pre
  have hown : s.vm.findClass RX7 = some m.cls := findClass_of_methodNamed B.named
  subst hsz
  have hD := hD0.self (sz := s.heap.size)
  generalize hAe : va_A ws s.heap.size = A at hD ⊢
  have hA : ∀ q : Nat, s.heap.size ≤ q → A q := fun q h => by rw [← hAe]; exact Or.inr h
  have hS : va_S A s.heap s.heap [] := va_S.rf
  have hl := lv_entry ([.ref (ad this), .int p0]) (n := 3) (Nat.le_of_ble_eq_true rfl)
  rw [lg_entry_eq]
  generalize (lg_sl ([.ref (ad this), .int p0]) ++ List.replicate (3 - (lg_sl ([.ref (ad this), .int p0])).length) Slot.unset).toArray = ls at hl ⊢
  exact bm_X7_append this p0 hk_this c_G141 c_V0 hr hx hb hml hown hts hA hK hW hT hP hD hS hl (fun pc ls c_G141z c_V0z ws H locs he hd hW hT hP hD hS => by cases he; exact W.vret hx hb hrt (fun t ht hW9 => ⟨⟨ws, rfl, ⟨hW, hT⟩, by rw [ht]; exact hP, va_K.moved hW9.alike hK, hD⟩, hS.F ht⟩) hS.2.2 hd)
set_option maxHeartbeats 4000000 in
set_option maxRecDepth 100000 in
theorem bm_X7_isWord {p : Program} {l : Launch} {e : Env} {s : State} {m : MethodId} {args : Array Value} {below : List Frame} {meth : Method} {c : Code} {Q : State → Prop} {A : Nat → Prop} {dC : Nat → ClassId} {dI : Nat → Nat → Nat} {kk : Nat → ClassId} {ad : Nat → Nat} {ws : va_W} {G : Nat → Nat → Int32} {P : Nat → Nat → Option Nat} {U : Nat → Nat → Int64} {V : Nat → Nat → Nat → Int32} {X : Nat → Nat → Nat → Int64} {O : Nat → Nat → Nat → Option Nat} {kd : Nat → Nat} {ln : Nat → Nat} {cnt : Nat} {H : Heap} {locs : List Loc} {ls : Array Slot} (this : Nat) (p0 : Int32) (hk_this : kd this = 8) (r : Int32) (hr : f_X7_isWord G P U V X O kd ln cnt this p0 = some r) (hx : p.tables.exec = Jvm.exec) (hb : c.code = cX7_isWord) (hml : c.maxLocals = 3) (hown : s.vm.findClass RX7 = some m.cls) (hts : ∀ w ∈ vmX7_isWord, w.before args s = true) (hA : ∀ q : Nat, s.heap.size ≤ q → A q) (hK : va_K (dC, dI) vwCl (cT kk) s) (hW : LW ws ad kk kd ln G P U V X O) (hT : TYP kd P O (V 0) cnt) (hP : va_P (dC, dI) vwCl ws H) (hD : va_D A ws) (hS : va_S A s.heap H locs) (hl : lv_has ls 3 [(0, .ref (ad this)), (1, .int p0)])
    (K : ∀ (pc : Nat) (ls : Array Slot) (rz : Int32) (ws : va_W) (H : Heap) (locs : List Loc), some rz = some r → is01 rz → decode cX7_isWord pc = .ok (.ireturn, 1) → LW ws ad kk kd ln G P U V X O → TYP kd P O (V 0) cnt → va_P (dC, dI) vwCl ws H → va_D A ws → va_S A s.heap H locs → W p l e ({ frames := 3, cells := 0, slots := 0, locals := 80 } : Room) s m args below meth c H locs 0 0 Q (F0 m pc ls [.int rz])) : W p l e ({ frames := 3, cells := 0, slots := 0, locals := 80 } : Room) s m args below meth c H locs 0 0 Q (F0 m 0 ls []) := by
  unfold f_X7_isWord at hr
  refine lv_iload_n hx hb dX7_isWord_0 rfl (lv_at hl 1 rfl) ?_
  refine lv_iconst (v := 1) hx hb dX7_isWord_1 (by decide +kernel) ?_
  replace hr := jnS hr
  obtain ⟨j11, hj11, hr⟩ := hr
  have Jj11 : ∀ (ws : va_W) (H : Heap) (locs : List Loc) (ls : Array Slot), j11 () = some r → LW ws ad kk kd ln G P U V X O → TYP kd P O (V 0) cnt → va_P (dC, dI) vwCl ws H → va_D A ws → va_S A s.heap H locs → lv_has ls 3 [] → W p l e ({ frames := 3, cells := 0, slots := 0, locals := 80 } : Room) s m args below meth c H locs 0 0 Q (F0 m 11 ls []) := by
    intro ws H locs ls hr hW hT hP hD hS hl
    rw [hj11] at hr
    refine lv_iconst (v := 0) hx hb dX7_isWord_11 (by decide +kernel) ?_
    exact K 12 ls _ ws H _ hr (by decide) dX7_isWord_12 hW hT hP hD hS
  refine lv_icmp_lt (tgt := 11) hx hb dX7_isWord_2 (by decide) (fun c2 => ?_) (fun c2 => ?_)
  · replace hr := iteT c2 hr
    exact Jj11 ws H _ ls hr hW hT hP hD hS (lv_sub hl [] rfl)
  · replace hr := iteF c2 hr
    refine lv_iload_n hx hb dX7_isWord_5 rfl (lv_at hl 1 rfl) ?_
    refine lv_bipush (v := 24) hx hb dX7_isWord_6 (by decide +kernel) ?_
    refine lv_icmp_le (tgt := 13) hx hb dX7_isWord_8 (by decide) (fun c8 => ?_) (fun c8 => ?_)
    · replace hr := iteT c8 hr
      refine lv_iconst (v := 0) hx hb dX7_isWord_13 (by decide +kernel) ?_
      refine lv_istore_n (lv' := [(2, .int 0), (0, .ref (ad this)), (1, .int p0)]) hx hb dX7_isWord_14 rfl hl (by decide) rfl (fun ls hl => ?_)
      have lp15 : ∀ (n15 : Nat), ∀ (y15_2 : Int32) (ws : va_W) (H : Heap) (locs : List Loc) (ls : Array Slot), L_X7_isWord_15 G P U V X O kd ln cnt this p0 n15 y15_2 = some r → LW ws ad kk kd ln G P U V X O → TYP kd P O (V 0) cnt → va_P (dC, dI) vwCl ws H → va_D A ws → va_S A s.heap H locs → lv_has ls 3 [(0, .ref (ad this)), (1, .int p0), (2, .int y15_2)] → W p l e ({ frames := 3, cells := 0, slots := 0, locals := 80 } : Room) s m args below meth c H locs 0 0 Q (F0 m 15 ls []) := by
        intro n15
        induction n15 with
        | zero => intro y15_2 ws H locs ls hr hW hT hP hD hS hl; exact nomatch (show none = some r from hr)
        | succ n15 ih15 =>
          intro y15_2 ws H locs ls hr hW hT hP hD hS hl
          replace hr : B_X7_isWord_15 G P U V X O kd ln cnt this p0 (L_X7_isWord_15 G P U V X O kd ln cnt this p0 n15) y15_2 = some r := hr
          unfold B_X7_isWord_15 at hr
          refine lv_iload_n hx hb dX7_isWord_15 rfl (lv_at hl 2 rfl) ?_
          refine lv_iload_n hx hb dX7_isWord_16 rfl (lv_at hl 1 rfl) ?_
          refine lv_icmp_ge (tgt := 40) hx hb dX7_isWord_17 (by decide) (fun c17 => ?_) (fun c17 => ?_)
          · replace hr := iteT c17 hr
            refine lv_iconst (v := 1) hx hb dX7_isWord_40 (by decide +kernel) ?_
            exact K 41 ls _ ws H _ hr (by decide) dX7_isWord_41 hW hT hP hD hS
          · replace hr := iteF c17 hr
            refine lv_aload_n hx hb dX7_isWord_20 rfl (lv_at hl 0 rfl) ?_
            obtain ⟨i1, hi1⟩ := hW.o7 hk_this
            replace hr := nnS hr
            obtain ⟨a21, hn21, hr⟩ := hr
            have hk_a21 : kd a21 = 100 := hT.1 140 _ _ hn21
            refine va_get (D := (dC, dI)) (ci := 7) (v := .ref (ad a21)) (C := RX7) (T := TX7) (N := 2) hx hb hts inX7 hown hK hP i1 hi1 rfl 0 (by decide) (hts (.fieldLink RX7 9 "SpellTurner$Tape" "bytes" "[B") ic_36) (fun _ h9 => h9) (congrArg (fun o => some (va_re ad o)) hn21) dX7_isWord_21 ?_
            refine lv_iload_n hx hb dX7_isWord_24 rfl (lv_at hl 2 rfl) ?_
            obtain ⟨i2, hi2⟩ := hW.v0 hk_a21
            replace hr := iteS hr
            obtain ⟨hi25, hr⟩ := hr
            refine va_bald (f := ((V 0) a21)) hx hb hK hP i2 0 hi2 rfl (inbV hi25) dX7_isWord_25 ?_
            replace hr := b1S hr
            obtain ⟨r26z, hc26, hr⟩ := hr
            have hFc := fr_all hD hS hA
            refine va_calli (va_runS (As := [.int (((V 0) a21) (Int32.toNatClampNeg y15_2))]) (rest := []) ⟨hx, hb, hml, hown, hts⟩ (m_X10_isSmall l dC dI kk ad H.size ws G P U V X O kd ln cnt (((V 0) a21) (Int32.toNatClampNeg y15_2)) hW hT r26z hc26) (va_cwS 1 hts gc_RX7_X10_isSmall_19 rfl rfl rfl (by decide +kernel) ⟨Nat.le_of_ble_eq_true rfl, Nat.le_of_ble_eq_true rfl⟩) ⟨fun a U g mk q => by obtain ⟨q0, q1, qP, qK, qD⟩ := q; exact ⟨q0, q1, qP, va_K.moved (u := U) (U := U.calling g mk a) (Vm.Alike.refl U.vm) qK, qD⟩, fun U hU hW => ⟨rfl, by rw [hU], by rw [hU]; exact hP, va_K.moved hW.alike hK, hD.weaken (fun _ _ _ _ => trivial)⟩⟩ rfl rfl hl.1 rfl (lv_room (Nat.le_of_ble_eq_true rfl)) dX7_isWord_26 ⟨Nat.le_of_ble_eq_true rfl, Nat.le_of_ble_eq_true rfl⟩) hS (fun q _ h => hFc q h) hFc (fun r26 w3 t H1 locs ht hvm hw hB hz1 hk1 hS => ?_)
            obtain ⟨hw0, hW, hT⟩ := hw
            replace hw0 : r26 = r26z := hw0
            subst hw0
            obtain ⟨hP1, hK1, hD1⟩ := hB
            rw [ht] at hP1
            obtain ⟨hP, hD⟩ := jn_all (w1 := w3) hFc hP1 hD1
            replace hP : va_P (dC, dI) vwCl w3 H1 := hP
            replace hD : va_D A w3 := hD
            clear hFc hP1 hK1 hD1 hk1 hz1 ht hvm
            generalize H1 = H at hP hS ⊢
            refine lv_if_ne (tgt := 34) hx hb dX7_isWord_29 (by decide) (fun c29 => ?_) (fun c29 => ?_)
            · replace hr := iteF c29 hr
              refine lv_iinc (v := (y15_2 + 1)) (lv' := [(2, .int (y15_2 + 1)), (0, .ref (ad this)), (1, .int p0)]) hx hb dX7_isWord_34 hl (k := 2) rfl rfl (by decide) rfl (fun ls hl => ?_)
              refine lv_goto (tgt := 15) hx hb dX7_isWord_37 (by decide) ?_
              exact ih15 (y15_2 + 1) w3 H _ ls hr hW hT hP hD hS (lv_sub hl [1, 2, 0] rfl)
            · replace hr := iteT c29 hr
              refine lv_iconst (v := 0) hx hb dX7_isWord_32 (by decide +kernel) ?_
              exact K 33 ls _ w3 H _ hr (by decide) dX7_isWord_33 hW hT hP hD hS
      exact lp15 NN 0 ws H _ ls hr hW hT hP hD hS (lv_sub hl [1, 2, 0] rfl)
    · replace hr := iteF c8 hr
      exact Jj11 ws H _ ls hr hW hT hP hD hS (lv_sub hl [] rfl)
set_option maxHeartbeats 4000000 in
set_option maxRecDepth 100000 in
theorem m_X7_isWord (l : Launch) (dC : Nat → ClassId) (dI : Nat → Nat → Nat) (kk : Nat → ClassId) (ad : Nat → Nat) (sz : Nat) (ws : va_W) (G : Nat → Nat → Int32) (P : Nat → Nat → Option Nat) (U : Nat → Nat → Int64) (V : Nat → Nat → Nat → Int32) (X : Nat → Nat → Nat → Int64) (O : Nat → Nat → Nat → Option Nat) (kd : Nat → Nat) (ln : Nat → Nat) (cnt : Nat) (this : Nat) (p0 : Int32) (hk_this : kd this = 8) (hW : LW ws ad kk kd ln G P U V X O) (hT : TYP kd P O (V 0) cnt) (r : Int32) (hr : f_X7_isWord G P U V X O kd ln cnt this p0 = some r) : Met l yX7_isWord vmX7_isWord ({ frames := 3, cells := 0, slots := 0, locals := 80 } : Room) (va_Pc [.ref (ad this), .int p0] (fun U => U.heap.size = sz ∧ va_P (dC, dI) vwCl ws U.heap ∧ va_K (dC, dI) vwCl (cT kk) U ∧ va_D (fun _ => True) ws)) (va_Qi (fun (rz : Int32) (w : va_W) => rz = r ∧ LW w ad kk kd ln G P U V X O ∧ TYP kd P O (V 0) cnt) (fun w t => va_P (dC, dI) vwCl w t.heap ∧ va_K (dC, dI) vwCl (cT kk) t ∧ va_D (va_A ws sz) w) (va_A ws sz)) 0 0 (va_A ws sz) := by
  refine Met.ofW (cc := cX7_isWord) (maxL := 3) (ret := (some .boolean)) (by decide) rfl ?_
  intro p e s m args below meth c s₁ B hml hv
  obtain ⟨rfl, hsz, hP, hK, hD0⟩ := hv
  have hx := B.exec
  have hb := B.bytes
  have hrt := B.returns
  have hts := atoms_spec (ws := vmX7_isWord) B.pre
  have hown : s.vm.findClass RX7 = some m.cls := findClass_of_methodNamed B.named
  subst hsz
  have hD := hD0.self (sz := s.heap.size)
  generalize hAe : va_A ws s.heap.size = A at hD ⊢
  have hA : ∀ q : Nat, s.heap.size ≤ q → A q := fun q h => by rw [← hAe]; exact Or.inr h
  have hS : va_S A s.heap s.heap [] := va_S.rf
  have hl := lv_entry ([.ref (ad this), .int p0]) (n := 3) (Nat.le_of_ble_eq_true rfl)
  rw [lg_entry_eq]
  generalize (lg_sl ([.ref (ad this), .int p0]) ++ List.replicate (3 - (lg_sl ([.ref (ad this), .int p0])).length) Slot.unset).toArray = ls at hl ⊢
  exact bm_X7_isWord this p0 hk_this r hr hx hb hml hown hts hA hK hW hT hP hD hS hl (fun pc ls rz ws H locs he hz hd hW hT hP hD hS => by cases he; exact W.zret (v := r) hx hb hrt (z_nb hz) (fun t ht hW9 => ⟨⟨r, ws, rfl, ⟨rfl, hW, hT⟩, by rw [ht]; exact hP, va_K.moved hW9.alike hK, hD⟩, hS.F ht⟩) hS.2.2 hd)
set_option maxHeartbeats 4000000 in
set_option maxRecDepth 100000 in
theorem bm_X7_occurrences {p : Program} {l : Launch} {e : Env} {s : State} {m : MethodId} {args : Array Value} {below : List Frame} {meth : Method} {c : Code} {Q : State → Prop} {A : Nat → Prop} {dC : Nat → ClassId} {dI : Nat → Nat → Nat} {kk : Nat → ClassId} {ad : Nat → Nat} {ws : va_W} {G : Nat → Nat → Int32} {P : Nat → Nat → Option Nat} {U : Nat → Nat → Int64} {V : Nat → Nat → Nat → Int32} {X : Nat → Nat → Nat → Int64} {O : Nat → Nat → Nat → Option Nat} {kd : Nat → Nat} {ln : Nat → Nat} {cnt : Nat} {H : Heap} {locs : List Loc} {ls : Array Slot} (this : Nat) (p0 : Int32) (p1 : Int32) (hk_this : kd this = 8) (r : Int32) (hr : f_X7_occurrences G P U V X O kd ln cnt this p0 p1 = some r) (hx : p.tables.exec = Jvm.exec) (hb : c.code = cX7_occurrences) (hml : c.maxLocals = 5) (hown : s.vm.findClass RX7 = some m.cls) (hts : ∀ w ∈ vmX7_occurrences, w.before args s = true) (hA : ∀ q : Nat, s.heap.size ≤ q → A q) (hK : va_K (dC, dI) vwCl (cT kk) s) (hW : LW ws ad kk kd ln G P U V X O) (hT : TYP kd P O (V 0) cnt) (hP : va_P (dC, dI) vwCl ws H) (hD : va_D A ws) (hS : va_S A s.heap H locs) (hl : lv_has ls 5 [(0, .ref (ad this)), (1, .int p0), (2, .int p1)])
    (K : ∀ (pc : Nat) (ls : Array Slot) (rz : Int32) (ws : va_W) (H : Heap) (locs : List Loc), some rz = some r → decode cX7_occurrences pc = .ok (.ireturn, 1) → LW ws ad kk kd ln G P U V X O → TYP kd P O (V 0) cnt → va_P (dC, dI) vwCl ws H → va_D A ws → va_S A s.heap H locs → W p l e ({ frames := 2, cells := 0, slots := 0, locals := 60 } : Room) s m args below meth c H locs 0 0 Q (F0 m pc ls [.int rz])) : W p l e ({ frames := 2, cells := 0, slots := 0, locals := 60 } : Room) s m args below meth c H locs 0 0 Q (F0 m 0 ls []) := by
  unfold f_X7_occurrences at hr
  refine lv_iconst (v := 0) hx hb dX7_occurrences_0 (by decide +kernel) ?_
  refine lv_istore_n (lv' := [(3, .int 0), (0, .ref (ad this)), (1, .int p0), (2, .int p1)]) hx hb dX7_occurrences_1 rfl hl (by decide) rfl (fun ls hl => ?_)
  refine lv_iconst (v := 0) hx hb dX7_occurrences_2 (by decide +kernel) ?_
  refine lv_istore (lv' := [(4, .int 0), (3, .int 0), (0, .ref (ad this)), (1, .int p0), (2, .int p1)]) hx hb dX7_occurrences_3 hl (by decide) rfl (fun ls hl => ?_)
  replace hr := jnS hr
  obtain ⟨k39, hk39, hr⟩ := hr
  have Jk39 : ∀ (x39_3 : Int32) (ws : va_W) (H : Heap) (locs : List Loc) (ls : Array Slot), k39 x39_3 = some r → LW ws ad kk kd ln G P U V X O → TYP kd P O (V 0) cnt → va_P (dC, dI) vwCl ws H → va_D A ws → va_S A s.heap H locs → lv_has ls 5 [(3, .int x39_3)] → W p l e ({ frames := 2, cells := 0, slots := 0, locals := 60 } : Room) s m args below meth c H locs 0 0 Q (F0 m 39 ls []) := by
    intro x39_3 ws H locs ls hr hW hT hP hD hS hl
    rw [hk39] at hr
    refine lv_iload_n hx hb dX7_occurrences_39 rfl (lv_at hl 0 rfl) ?_
    exact K 40 ls _ ws H _ hr dX7_occurrences_40 hW hT hP hD hS
  have lp5 : ∀ (n5 : Nat), ∀ (y5_3 : Int32) (y5_4 : Int32) (ws : va_W) (H : Heap) (locs : List Loc) (ls : Array Slot), L_X7_occurrences_5 P V ln this p0 p1 k39 n5 y5_3 y5_4 = some r → LW ws ad kk kd ln G P U V X O → TYP kd P O (V 0) cnt → va_P (dC, dI) vwCl ws H → va_D A ws → va_S A s.heap H locs → lv_has ls 5 [(0, .ref (ad this)), (1, .int p0), (2, .int p1), (3, .int y5_3), (4, .int y5_4)] → W p l e ({ frames := 2, cells := 0, slots := 0, locals := 60 } : Room) s m args below meth c H locs 0 0 Q (F0 m 5 ls []) := by
    intro n5
    induction n5 with
    | zero => intro y5_3 y5_4 ws H locs ls hr hW hT hP hD hS hl; exact nomatch (show none = some r from hr)
    | succ n5 ih5 =>
      intro y5_3 y5_4 ws H locs ls hr hW hT hP hD hS hl
      replace hr : B_X7_occurrences_5 P V ln this p0 p1 k39 (L_X7_occurrences_5 P V ln this p0 p1 k39 n5) y5_3 y5_4 = some r := hr
      unfold B_X7_occurrences_5 at hr
      refine lv_iload hx hb dX7_occurrences_5 (lv_at hl 4 rfl) ?_
      refine lv_iload_n hx hb dX7_occurrences_7 rfl (lv_at hl 2 rfl) ?_
      refine lv_icmp_ge (tgt := 39) hx hb dX7_occurrences_8 (by decide) (fun c8 => ?_) (fun c8 => ?_)
      · replace hr := iteT c8 hr
        exact Jk39 y5_3 ws H _ ls hr hW hT hP hD hS (lv_sub hl [3] rfl)
      · replace hr := iteF c8 hr
        refine lv_iload hx hb dX7_occurrences_11 (lv_at hl 4 rfl) ?_
        refine lv_sipush (v := 2000) hx hb dX7_occurrences_13 (by decide +kernel) ?_
        refine lv_icmp_ge (tgt := 39) hx hb dX7_occurrences_16 (by decide) (fun c16 => ?_) (fun c16 => ?_)
        · replace hr := iteT c16 hr
          exact Jk39 y5_3 ws H _ ls hr hW hT hP hD hS (lv_sub hl [3] rfl)
        · replace hr := iteF c16 hr
          refine lv_aload_n hx hb dX7_occurrences_19 rfl (lv_at hl 0 rfl) ?_
          obtain ⟨i1, hi1⟩ := hW.o7 hk_this
          replace hr := nnS hr
          obtain ⟨a20, hn20, hr⟩ := hr
          have hk_a20 : kd a20 = 100 := hT.1 140 _ _ hn20
          refine va_get (D := (dC, dI)) (ci := 7) (v := .ref (ad a20)) (C := RX7) (T := TX7) (N := 2) hx hb hts inX7 hown hK hP i1 hi1 rfl 0 (by decide) (hts (.fieldLink RX7 9 "SpellTurner$Tape" "bytes" "[B") ic_36) (fun _ h9 => h9) (congrArg (fun o => some (va_re ad o)) hn20) dX7_occurrences_20 ?_
          refine lv_iload hx hb dX7_occurrences_23 (lv_at hl 4 rfl) ?_
          obtain ⟨i2, hi2⟩ := hW.v0 hk_a20
          replace hr := iteS hr
          obtain ⟨hi25, hr⟩ := hr
          refine va_bald (f := ((V 0) a20)) hx hb hK hP i2 0 hi2 rfl (inbV hi25) dX7_occurrences_25 ?_
          refine lv_iload_n hx hb dX7_occurrences_26 rfl (lv_at hl 1 rfl) ?_
          replace hr := jnS hr
          obtain ⟨j33, hj33, hr⟩ := hr
          have Jj33 : ∀ (x33_3 : Int32) (ws : va_W) (H : Heap) (locs : List Loc) (ls : Array Slot), j33 x33_3 = some r → LW ws ad kk kd ln G P U V X O → TYP kd P O (V 0) cnt → va_P (dC, dI) vwCl ws H → va_D A ws → va_S A s.heap H locs → lv_has ls 5 [(0, .ref (ad this)), (1, .int p0), (2, .int p1), (3, .int x33_3), (4, .int y5_4)] → W p l e ({ frames := 2, cells := 0, slots := 0, locals := 60 } : Room) s m args below meth c H locs 0 0 Q (F0 m 33 ls []) := by
            intro x33_3 ws H locs ls hr hW hT hP hD hS hl
            rw [hj33] at hr
            refine lv_iinc (v := (y5_4 + 1)) (lv' := [(4, .int (y5_4 + 1)), (0, .ref (ad this)), (1, .int p0), (2, .int p1), (3, .int x33_3)]) hx hb dX7_occurrences_33 hl (k := 4) rfl rfl (by decide) rfl (fun ls hl => ?_)
            refine lv_goto (tgt := 5) hx hb dX7_occurrences_36 (by decide) ?_
            exact ih5 x33_3 (y5_4 + 1) ws H _ ls hr hW hT hP hD hS (lv_sub hl [1, 2, 3, 4, 0] rfl)
          refine lv_icmp_ne (tgt := 33) hx hb dX7_occurrences_27 (by decide) (fun c27 => ?_) (fun c27 => ?_)
          · replace hr := iteF c27 hr
            exact Jj33 y5_3 ws H _ ls hr hW hT hP hD hS (lv_sub hl [0, 1, 2, 3, 4] rfl)
          · replace hr := iteT c27 hr
            refine lv_iinc (v := (y5_3 + 1)) (lv' := [(3, .int (y5_3 + 1)), (0, .ref (ad this)), (1, .int p0), (2, .int p1), (4, .int y5_4)]) hx hb dX7_occurrences_30 hl (k := 3) rfl rfl (by decide) rfl (fun ls hl => ?_)
            exact Jj33 (y5_3 + 1) ws H _ ls hr hW hT hP hD hS (lv_sub hl [1, 2, 3, 0, 4] rfl)
  exact lp5 NN 0 0 ws H _ ls hr hW hT hP hD hS (lv_sub hl [2, 3, 4, 1, 0] rfl)
set_option maxHeartbeats 4000000 in
set_option maxRecDepth 100000 in
theorem m_X7_occurrences (l : Launch) (dC : Nat → ClassId) (dI : Nat → Nat → Nat) (kk : Nat → ClassId) (ad : Nat → Nat) (sz : Nat) (ws : va_W) (G : Nat → Nat → Int32) (P : Nat → Nat → Option Nat) (U : Nat → Nat → Int64) (V : Nat → Nat → Nat → Int32) (X : Nat → Nat → Nat → Int64) (O : Nat → Nat → Nat → Option Nat) (kd : Nat → Nat) (ln : Nat → Nat) (cnt : Nat) (this : Nat) (p0 : Int32) (p1 : Int32) (hk_this : kd this = 8) (hW : LW ws ad kk kd ln G P U V X O) (hT : TYP kd P O (V 0) cnt) (r : Int32) (hr : f_X7_occurrences G P U V X O kd ln cnt this p0 p1 = some r) : Met l yX7_occurrences vmX7_occurrences ({ frames := 2, cells := 0, slots := 0, locals := 60 } : Room) (va_Pc [.ref (ad this), .int p0, .int p1] (fun U => U.heap.size = sz ∧ va_P (dC, dI) vwCl ws U.heap ∧ va_K (dC, dI) vwCl (cT kk) U ∧ va_D (fun _ => True) ws)) (va_Qi (fun (rz : Int32) (w : va_W) => rz = r ∧ LW w ad kk kd ln G P U V X O ∧ TYP kd P O (V 0) cnt) (fun w t => va_P (dC, dI) vwCl w t.heap ∧ va_K (dC, dI) vwCl (cT kk) t ∧ va_D (va_A ws sz) w) (va_A ws sz)) 0 0 (va_A ws sz) := by
  refine Met.ofW (cc := cX7_occurrences) (maxL := 5) (ret := (some .int)) (by decide) rfl ?_
  intro p e s m args below meth c s₁ B hml hv
  obtain ⟨rfl, hsz, hP, hK, hD0⟩ := hv
  have hx := B.exec
  have hb := B.bytes
  have hrt := B.returns
  have hts := atoms_spec (ws := vmX7_occurrences) B.pre
  have hown : s.vm.findClass RX7 = some m.cls := findClass_of_methodNamed B.named
  subst hsz
  have hD := hD0.self (sz := s.heap.size)
  generalize hAe : va_A ws s.heap.size = A at hD ⊢
  have hA : ∀ q : Nat, s.heap.size ≤ q → A q := fun q h => by rw [← hAe]; exact Or.inr h
  have hS : va_S A s.heap s.heap [] := va_S.rf
  have hl := lv_entry ([.ref (ad this), .int p0, .int p1]) (n := 5) (Nat.le_of_ble_eq_true rfl)
  rw [lg_entry_eq]
  generalize (lg_sl ([.ref (ad this), .int p0, .int p1]) ++ List.replicate (5 - (lg_sl ([.ref (ad this), .int p0, .int p1])).length) Slot.unset).toArray = ls at hl ⊢
  exact bm_X7_occurrences this p0 p1 hk_this r hr hx hb hml hown hts hA hK hW hT hP hD hS hl (fun pc ls rz ws H locs he hd hW hT hP hD hS => by cases he; exact W.iret (v := r) hx hb hrt (fun t ht hW9 => ⟨⟨r, ws, rfl, ⟨rfl, hW, hT⟩, by rw [ht]; exact hP, va_K.moved hW9.alike hK, hD⟩, hS.F ht⟩) hS.2.2 hd)
set_option maxHeartbeats 4000000 in
set_option maxRecDepth 100000 in
theorem bm_X7_hasZero {p : Program} {l : Launch} {e : Env} {s : State} {m : MethodId} {args : Array Value} {below : List Frame} {meth : Method} {c : Code} {Q : State → Prop} {A : Nat → Prop} {dC : Nat → ClassId} {dI : Nat → Nat → Nat} {kk : Nat → ClassId} {ad : Nat → Nat} {ws : va_W} {G : Nat → Nat → Int32} {P : Nat → Nat → Option Nat} {U : Nat → Nat → Int64} {V : Nat → Nat → Nat → Int32} {X : Nat → Nat → Nat → Int64} {O : Nat → Nat → Nat → Option Nat} {kd : Nat → Nat} {ln : Nat → Nat} {cnt : Nat} {H : Heap} {locs : List Loc} {ls : Array Slot} (this : Nat) (p0 : Int32) (hk_this : kd this = 8) (r : Int32) (hr : f_X7_hasZero G P U V X O kd ln cnt this p0 = some r) (hx : p.tables.exec = Jvm.exec) (hb : c.code = cX7_hasZero) (hml : c.maxLocals = 2) (hown : s.vm.findClass RX7 = some m.cls) (hts : ∀ w ∈ vmX7_hasZero, w.before args s = true) (hA : ∀ q : Nat, s.heap.size ≤ q → A q) (hK : va_K (dC, dI) vwCl (cT kk) s) (hW : LW ws ad kk kd ln G P U V X O) (hT : TYP kd P O (V 0) cnt) (hP : va_P (dC, dI) vwCl ws H) (hD : va_D A ws) (hS : va_S A s.heap H locs) (hl : lv_has ls 2 [(0, .ref (ad this)), (1, .int p0)])
    (K : ∀ (pc : Nat) (ls : Array Slot) (rz : Int32) (ws : va_W) (H : Heap) (locs : List Loc), some rz = some r → is01 rz → decode cX7_hasZero pc = .ok (.ireturn, 1) → LW ws ad kk kd ln G P U V X O → TYP kd P O (V 0) cnt → va_P (dC, dI) vwCl ws H → va_D A ws → va_S A s.heap H locs → W p l e ({ frames := 3, cells := 0, slots := 0, locals := 84 } : Room) s m args below meth c H locs 0 0 Q (F0 m pc ls [.int rz])) : W p l e ({ frames := 3, cells := 0, slots := 0, locals := 84 } : Room) s m args below meth c H locs 0 0 Q (F0 m 0 ls []) := by
  unfold f_X7_hasZero at hr
  refine lv_aload_n hx hb dX7_hasZero_0 rfl (lv_at hl 0 rfl) ?_
  refine lv_iconst (v := 0) hx hb dX7_hasZero_1 (by decide +kernel) ?_
  refine lv_iload_n hx hb dX7_hasZero_2 rfl (lv_at hl 1 rfl) ?_
  replace hr := b1S hr
  obtain ⟨r3z, hc3, hr⟩ := hr
  have hFc := fr_all hD hS hA
  obtain ⟨i1, hi1⟩ := hW.o7 hk_this
  refine va_calli (va_runV (As := [.int 0, .int p0]) (rest := []) ⟨hx, hb, hml, hown, hts⟩ (m_X7_occurrences l dC dI kk ad H.size ws G P U V X O kd ln cnt this 0 p0 hk_this hW hT r3z hc3) (cwV 2 hts gc_RX7_X7_occurrences_25 rfl rfl rfl (by decide +kernel) ⟨Nat.le_of_ble_eq_true rfl, Nat.le_of_ble_eq_true rfl⟩) ⟨fun a U g mk q => by obtain ⟨q0, q1, qP, qK, qD⟩ := q; exact ⟨q0, q1, qP, va_K.moved (u := U) (U := U.calling g mk a) (Vm.Alike.refl U.vm) qK, qD⟩, va_recv hK hP (ci := 7) (q0 := i1) rfl hi1, fun U hU hW => ⟨rfl, by rw [hU], by rw [hU]; exact hP, va_K.moved hW.alike hK, hD.weaken (fun _ _ _ _ => trivial)⟩⟩ rfl rfl hl.1 rfl (lv_room (Nat.le_of_ble_eq_true rfl)) dX7_hasZero_3 ⟨Nat.le_of_ble_eq_true rfl, Nat.le_of_ble_eq_true rfl⟩) hS (fun q _ h => hFc q h) hFc (fun r3 w2 t H1 locs ht hvm hw hB hz1 hk1 hS => ?_)
  obtain ⟨hw0, hW, hT⟩ := hw
  replace hw0 : r3 = r3z := hw0
  subst hw0
  obtain ⟨hP1, hK1, hD1⟩ := hB
  rw [ht] at hP1
  obtain ⟨hP, hD⟩ := jn_all (w1 := w2) hFc hP1 hD1
  replace hP : va_P (dC, dI) vwCl w2 H1 := hP
  replace hD : va_D A w2 := hD
  clear hFc hP1 hK1 hD1 hk1 hz1 ht hvm
  generalize H1 = H at hP hS ⊢
  replace hr := jnS hr
  obtain ⟨j14, hj14, hr⟩ := hr
  have Jj14 : ∀ (t14_0 : Int32) (ws : va_W) (H : Heap) (locs : List Loc) (ls : Array Slot), j14 t14_0 = some r → LW ws ad kk kd ln G P U V X O → TYP kd P O (V 0) cnt → va_P (dC, dI) vwCl ws H → va_D A ws → va_S A s.heap H locs → lv_has ls 2 [] → W p l e ({ frames := 3, cells := 0, slots := 0, locals := 84 } : Room) s m args below meth c H locs 0 0 Q (F0 m 14 ls [.int t14_0]) := by
    intro t14_0 ws H locs ls hr hW hT hP hD hS hl
    rw [hj14] at hr
    replace hr := iteS hr
    obtain ⟨hz14, hr⟩ := hr
    exact K 14 ls _ ws H _ hr hz14 dX7_hasZero_14 hW hT hP hD hS
  refine lv_if_le (tgt := 13) hx hb dX7_hasZero_6 (by decide) (fun c6 => ?_) (fun c6 => ?_)
  · replace hr := iteT c6 hr
    refine lv_iconst (v := 0) hx hb dX7_hasZero_13 (by decide +kernel) ?_
    exact Jj14 0 w2 H _ ls hr hW hT hP hD hS (lv_sub hl [] rfl)
  · replace hr := iteF c6 hr
    refine lv_iconst (v := 1) hx hb dX7_hasZero_9 (by decide +kernel) ?_
    refine lv_goto (tgt := 14) hx hb dX7_hasZero_10 (by decide) ?_
    exact Jj14 1 w2 H _ ls hr hW hT hP hD hS (lv_sub hl [] rfl)
set_option maxHeartbeats 4000000 in
set_option maxRecDepth 100000 in
theorem m_X7_hasZero (l : Launch) (dC : Nat → ClassId) (dI : Nat → Nat → Nat) (kk : Nat → ClassId) (ad : Nat → Nat) (sz : Nat) (ws : va_W) (G : Nat → Nat → Int32) (P : Nat → Nat → Option Nat) (U : Nat → Nat → Int64) (V : Nat → Nat → Nat → Int32) (X : Nat → Nat → Nat → Int64) (O : Nat → Nat → Nat → Option Nat) (kd : Nat → Nat) (ln : Nat → Nat) (cnt : Nat) (this : Nat) (p0 : Int32) (hk_this : kd this = 8) (hW : LW ws ad kk kd ln G P U V X O) (hT : TYP kd P O (V 0) cnt) (r : Int32) (hr : f_X7_hasZero G P U V X O kd ln cnt this p0 = some r) : Met l yX7_hasZero vmX7_hasZero ({ frames := 3, cells := 0, slots := 0, locals := 84 } : Room) (va_Pc [.ref (ad this), .int p0] (fun U => U.heap.size = sz ∧ va_P (dC, dI) vwCl ws U.heap ∧ va_K (dC, dI) vwCl (cT kk) U ∧ va_D (fun _ => True) ws)) (va_Qi (fun (rz : Int32) (w : va_W) => rz = r ∧ LW w ad kk kd ln G P U V X O ∧ TYP kd P O (V 0) cnt) (fun w t => va_P (dC, dI) vwCl w t.heap ∧ va_K (dC, dI) vwCl (cT kk) t ∧ va_D (va_A ws sz) w) (va_A ws sz)) 0 0 (va_A ws sz) := by
  refine Met.ofW (cc := cX7_hasZero) (maxL := 2) (ret := (some .boolean)) (by decide) rfl ?_
  intro p e s m args below meth c s₁ B hml hv
  obtain ⟨rfl, hsz, hP, hK, hD0⟩ := hv
  have hx := B.exec
  have hb := B.bytes
  have hrt := B.returns
  have hts := atoms_spec (ws := vmX7_hasZero) B.pre
  have hown : s.vm.findClass RX7 = some m.cls := findClass_of_methodNamed B.named
  subst hsz
  have hD := hD0.self (sz := s.heap.size)
  generalize hAe : va_A ws s.heap.size = A at hD ⊢
  have hA : ∀ q : Nat, s.heap.size ≤ q → A q := fun q h => by rw [← hAe]; exact Or.inr h
  have hS : va_S A s.heap s.heap [] := va_S.rf
  have hl := lv_entry ([.ref (ad this), .int p0]) (n := 2) (Nat.le_of_ble_eq_true rfl)
  rw [lg_entry_eq]
  generalize (lg_sl ([.ref (ad this), .int p0]) ++ List.replicate (2 - (lg_sl ([.ref (ad this), .int p0])).length) Slot.unset).toArray = ls at hl ⊢
  exact bm_X7_hasZero this p0 hk_this r hr hx hb hml hown hts hA hK hW hT hP hD hS hl (fun pc ls rz ws H locs he hz hd hW hT hP hD hS => by cases he; exact W.zret (v := r) hx hb hrt (z_nb hz) (fun t ht hW9 => ⟨⟨r, ws, rfl, ⟨rfl, hW, hT⟩, by rw [ht]; exact hP, va_K.moved hW9.alike hK, hD⟩, hS.F ht⟩) hS.2.2 hd)
set_option maxHeartbeats 4000000 in
set_option maxRecDepth 100000 in
theorem bm_X7_lines {p : Program} {l : Launch} {e : Env} {s : State} {m : MethodId} {args : Array Value} {below : List Frame} {meth : Method} {c : Code} {Q : State → Prop} {A : Nat → Prop} {dC : Nat → ClassId} {dI : Nat → Nat → Nat} {kk : Nat → ClassId} {ad : Nat → Nat} {ws : va_W} {G : Nat → Nat → Int32} {P : Nat → Nat → Option Nat} {U : Nat → Nat → Int64} {V : Nat → Nat → Nat → Int32} {X : Nat → Nat → Nat → Int64} {O : Nat → Nat → Nat → Option Nat} {kd : Nat → Nat} {ln : Nat → Nat} {cnt : Nat} {H : Heap} {locs : List Loc} {ls : Array Slot} (this : Nat) (p0 : Int32) (hk_this : kd this = 8) (r : Int32) (hr : f_X7_lines G P U V X O kd ln cnt this p0 = some r) (hx : p.tables.exec = Jvm.exec) (hb : c.code = cX7_lines) (hml : c.maxLocals = 2) (hown : s.vm.findClass RX7 = some m.cls) (hts : ∀ w ∈ vmX7_lines, w.before args s = true) (hA : ∀ q : Nat, s.heap.size ≤ q → A q) (hK : va_K (dC, dI) vwCl (cT kk) s) (hW : LW ws ad kk kd ln G P U V X O) (hT : TYP kd P O (V 0) cnt) (hP : va_P (dC, dI) vwCl ws H) (hD : va_D A ws) (hS : va_S A s.heap H locs) (hl : lv_has ls 2 [(0, .ref (ad this)), (1, .int p0)])
    (K : ∀ (pc : Nat) (ls : Array Slot) (rz : Int32) (ws : va_W) (H : Heap) (locs : List Loc), some rz = some r → decode cX7_lines pc = .ok (.ireturn, 1) → LW ws ad kk kd ln G P U V X O → TYP kd P O (V 0) cnt → va_P (dC, dI) vwCl ws H → va_D A ws → va_S A s.heap H locs → W p l e ({ frames := 3, cells := 0, slots := 0, locals := 84 } : Room) s m args below meth c H locs 0 0 Q (F0 m pc ls [.int rz])) : W p l e ({ frames := 3, cells := 0, slots := 0, locals := 84 } : Room) s m args below meth c H locs 0 0 Q (F0 m 0 ls []) := by
  unfold f_X7_lines at hr
  refine lv_iconst (v := 1) hx hb dX7_lines_0 (by decide +kernel) ?_
  refine lv_aload_n hx hb dX7_lines_1 rfl (lv_at hl 0 rfl) ?_
  refine lv_bipush (v := 10) hx hb dX7_lines_2 (by decide +kernel) ?_
  refine lv_iload_n hx hb dX7_lines_4 rfl (lv_at hl 1 rfl) ?_
  replace hr := b1S hr
  obtain ⟨r5z, hc5, hr⟩ := hr
  have hFc := fr_all hD hS hA
  obtain ⟨i1, hi1⟩ := hW.o7 hk_this
  refine va_calli (va_runV (As := [.int 10, .int p0]) (rest := [.int 1]) ⟨hx, hb, hml, hown, hts⟩ (m_X7_occurrences l dC dI kk ad H.size ws G P U V X O kd ln cnt this 10 p0 hk_this hW hT r5z hc5) (cwV 2 hts gc_RX7_X7_occurrences_25 rfl rfl rfl (by decide +kernel) ⟨Nat.le_of_ble_eq_true rfl, Nat.le_of_ble_eq_true rfl⟩) ⟨fun a U g mk q => by obtain ⟨q0, q1, qP, qK, qD⟩ := q; exact ⟨q0, q1, qP, va_K.moved (u := U) (U := U.calling g mk a) (Vm.Alike.refl U.vm) qK, qD⟩, va_recv hK hP (ci := 7) (q0 := i1) rfl hi1, fun U hU hW => ⟨rfl, by rw [hU], by rw [hU]; exact hP, va_K.moved hW.alike hK, hD.weaken (fun _ _ _ _ => trivial)⟩⟩ rfl rfl hl.1 rfl (lv_room (Nat.le_of_ble_eq_true rfl)) dX7_lines_5 ⟨Nat.le_of_ble_eq_true rfl, Nat.le_of_ble_eq_true rfl⟩) hS (fun q _ h => hFc q h) hFc (fun r5 w2 t H1 locs ht hvm hw hB hz1 hk1 hS => ?_)
  obtain ⟨hw0, hW, hT⟩ := hw
  replace hw0 : r5 = r5z := hw0
  subst hw0
  obtain ⟨hP1, hK1, hD1⟩ := hB
  rw [ht] at hP1
  obtain ⟨hP, hD⟩ := jn_all (w1 := w2) hFc hP1 hD1
  replace hP : va_P (dC, dI) vwCl w2 H1 := hP
  replace hD : va_D A w2 := hD
  clear hFc hP1 hK1 hD1 hk1 hz1 ht hvm
  generalize H1 = H at hP hS ⊢
  refine lv_iadd hx hb dX7_lines_8 ?_
  exact K 9 ls _ w2 H _ hr dX7_lines_9 hW hT hP hD hS
set_option maxHeartbeats 4000000 in
set_option maxRecDepth 100000 in
theorem m_X7_lines (l : Launch) (dC : Nat → ClassId) (dI : Nat → Nat → Nat) (kk : Nat → ClassId) (ad : Nat → Nat) (sz : Nat) (ws : va_W) (G : Nat → Nat → Int32) (P : Nat → Nat → Option Nat) (U : Nat → Nat → Int64) (V : Nat → Nat → Nat → Int32) (X : Nat → Nat → Nat → Int64) (O : Nat → Nat → Nat → Option Nat) (kd : Nat → Nat) (ln : Nat → Nat) (cnt : Nat) (this : Nat) (p0 : Int32) (hk_this : kd this = 8) (hW : LW ws ad kk kd ln G P U V X O) (hT : TYP kd P O (V 0) cnt) (r : Int32) (hr : f_X7_lines G P U V X O kd ln cnt this p0 = some r) : Met l yX7_lines vmX7_lines ({ frames := 3, cells := 0, slots := 0, locals := 84 } : Room) (va_Pc [.ref (ad this), .int p0] (fun U => U.heap.size = sz ∧ va_P (dC, dI) vwCl ws U.heap ∧ va_K (dC, dI) vwCl (cT kk) U ∧ va_D (fun _ => True) ws)) (va_Qi (fun (rz : Int32) (w : va_W) => rz = r ∧ LW w ad kk kd ln G P U V X O ∧ TYP kd P O (V 0) cnt) (fun w t => va_P (dC, dI) vwCl w t.heap ∧ va_K (dC, dI) vwCl (cT kk) t ∧ va_D (va_A ws sz) w) (va_A ws sz)) 0 0 (va_A ws sz) := by
  refine Met.ofW (cc := cX7_lines) (maxL := 2) (ret := (some .int)) (by decide) rfl ?_
  intro p e s m args below meth c s₁ B hml hv
  obtain ⟨rfl, hsz, hP, hK, hD0⟩ := hv
  have hx := B.exec
  have hb := B.bytes
  have hrt := B.returns
  have hts := atoms_spec (ws := vmX7_lines) B.pre
  have hown : s.vm.findClass RX7 = some m.cls := findClass_of_methodNamed B.named
  subst hsz
  have hD := hD0.self (sz := s.heap.size)
  generalize hAe : va_A ws s.heap.size = A at hD ⊢
  have hA : ∀ q : Nat, s.heap.size ≤ q → A q := fun q h => by rw [← hAe]; exact Or.inr h
  have hS : va_S A s.heap s.heap [] := va_S.rf
  have hl := lv_entry ([.ref (ad this), .int p0]) (n := 2) (Nat.le_of_ble_eq_true rfl)
  rw [lg_entry_eq]
  generalize (lg_sl ([.ref (ad this), .int p0]) ++ List.replicate (2 - (lg_sl ([.ref (ad this), .int p0])).length) Slot.unset).toArray = ls at hl ⊢
  exact bm_X7_lines this p0 hk_this r hr hx hb hml hown hts hA hK hW hT hP hD hS hl (fun pc ls rz ws H locs he hd hW hT hP hD hS => by cases he; exact W.iret (v := r) hx hb hrt (fun t ht hW9 => ⟨⟨r, ws, rfl, ⟨rfl, hW, hT⟩, by rw [ht]; exact hP, va_K.moved hW9.alike hK, hD⟩, hS.F ht⟩) hS.2.2 hd)
set_option maxHeartbeats 4000000 in
set_option maxRecDepth 100000 in
theorem bm_X11_feed {p : Program} {l : Launch} {e : Env} {s : State} {m : MethodId} {args : Array Value} {below : List Frame} {meth : Method} {c : Code} {Q : State → Prop} {A : Nat → Prop} {dC : Nat → ClassId} {dI : Nat → Nat → Nat} {kk : Nat → ClassId} {ad : Nat → Nat} {ws : va_W} {G : Nat → Nat → Int32} {P : Nat → Nat → Option Nat} {U : Nat → Nat → Int64} {V : Nat → Nat → Nat → Int32} {X : Nat → Nat → Nat → Int64} {O : Nat → Nat → Nat → Option Nat} {kd : Nat → Nat} {ln : Nat → Nat} {cnt : Nat} {H : Heap} {locs : List Loc} {ls : Array Slot} (this : Nat) (p0 : Int32) (p1 : Int32) (p2 : Int32) (p3 : Int32) (p4 : Int32) (hk_this : kd this = 12) (r : Int32) (c_G141 : Nat → Int32) (c_V0 : Nat → Nat → Int32) (hr : f_X11_feed G P U V X O kd ln cnt this p0 p1 p2 p3 p4 = some (r, c_G141, c_V0)) (hx : p.tables.exec = Jvm.exec) (hb : c.code = cX11_feed) (hml : c.maxLocals = 6) (hown : s.vm.findClass RX11 = some m.cls) (hts : ∀ w ∈ vmX11_feed, w.before args s = true) (hA : ∀ q : Nat, s.heap.size ≤ q → A q) (hK : va_K (dC, dI) vwCl (cT kk) s) (hW : LW ws ad kk kd ln G P U V X O) (hT : TYP kd P O (V 0) cnt) (hP : va_P (dC, dI) vwCl ws H) (hD : va_D A ws) (hS : va_S A s.heap H locs) (hl : lv_has ls 6 [(0, .ref (ad this)), (1, .int p0), (2, .int p1), (3, .int p2), (4, .int p3), (5, .int p4)])
    (K : ∀ (pc : Nat) (ls : Array Slot) (rz : Int32) (c_G141z : Nat → Int32) (c_V0z : Nat → Nat → Int32) (ws : va_W) (H : Heap) (locs : List Loc), some (rz, c_G141z, c_V0z) = some (r, c_G141, c_V0) → decode cX11_feed pc = .ok (.ireturn, 1) → LW ws ad kk kd ln (va_up G 141 c_G141z) P U (va_up V 0 c_V0z) X O → TYP kd P O c_V0z cnt → va_P (dC, dI) vwCl ws H → va_D A ws → va_S A s.heap H locs → W p l e ({ frames := 3, cells := 0, slots := 0, locals := 82 } : Room) s m args below meth c H locs 0 0 Q (F0 m pc ls [.int rz])) : W p l e ({ frames := 3, cells := 0, slots := 0, locals := 82 } : Room) s m args below meth c H locs 0 0 Q (F0 m 0 ls []) := by
  unfold f_X11_feed at hr
  refine lv_aload_n hx hb dX11_feed_0 rfl (lv_at hl 0 rfl) ?_
  obtain ⟨i1, hi1⟩ := hW.o11 hk_this
  replace hr := nnS hr
  obtain ⟨a1, hn1, hr⟩ := hr
  have hk_a1 : kd a1 = 8 := hT.1 220 _ _ hn1
  refine va_get (D := (dC, dI)) (ci := 11) (v := .ref (ad a1)) (C := RX11) (T := TX11) (N := 17) hx hb hts inX11 hown hK hP i1 hi1 rfl 0 (by decide) (hts (.fieldLink RX11 12 "SpellTurner" "tape" "LSpellTurner$Tape;") ic_48) (fun _ h9 => h9) (congrArg (fun o => some (va_re ad o)) hn1) dX11_feed_1 ?_
  obtain ⟨i2, hi2⟩ := hW.o7 hk_a1
  refine va_get (D := (dC, dI)) (ci := 7) (v := .int ((G 141) a1)) (C := RX7) (T := TX7) (N := 2) hx hb hts inX7 hown hK hP i2 hi2 rfl 1 (by decide) (hts (.fieldLink RX11 105 "SpellTurner$Tape" "length" "I") ic_49) (fun _ h9 => h9) rfl dX11_feed_4 ?_
  refine lv_bipush (v := 20) hx hb dX11_feed_7 (by decide +kernel) ?_
  refine lv_iadd hx hb dX11_feed_9 ?_
  refine lv_sipush (v := 2000) hx hb dX11_feed_10 (by decide +kernel) ?_
  refine lv_icmp_le (tgt := 19) hx hb dX11_feed_13 (by decide) (fun c13 => ?_) (fun c13 => ?_)
  · replace hr := iteT c13 hr
    refine lv_aload_n hx hb dX11_feed_19 rfl (lv_at hl 0 rfl) ?_
    obtain ⟨i3, hi3⟩ := hW.o11 hk_this
    replace hr := nnS hr
    obtain ⟨a20, hn20, hr⟩ := hr
    have hk_a20 : kd a20 = 8 := hT.1 220 _ _ hn20
    refine va_get (D := (dC, dI)) (ci := 11) (v := .ref (ad a20)) (C := RX11) (T := TX11) (N := 17) hx hb hts inX11 hown hK hP i3 hi3 rfl 0 (by decide) (hts (.fieldLink RX11 12 "SpellTurner" "tape" "LSpellTurner$Tape;") ic_48) (fun _ h9 => h9) (congrArg (fun o => some (va_re ad o)) hn20) dX11_feed_20 ?_
    refine lv_iload_n hx hb dX11_feed_23 rfl (lv_at hl 1 rfl) ?_
    replace hr := b2S hr
    obtain ⟨c24_G141, c24_V0, hc24, hr⟩ := hr
    have hFc := fr_all hD hS hA
    obtain ⟨i4, hi4⟩ := hW.o7 hk_a20
    refine va_callv (va_runV (As := [.int p0]) (rest := []) ⟨hx, hb, hml, hown, hts⟩ (m_X7_append l dC dI kk ad H.size ws G P U V X O kd ln cnt a20 p0 hk_a20 hW hT c24_G141 c24_V0 hc24) (cwV 1 hts gc_RX11_X7_append_108 rfl rfl rfl (by decide +kernel) ⟨Nat.le_of_ble_eq_true rfl, Nat.le_of_ble_eq_true rfl⟩) ⟨fun a U g mk q => by obtain ⟨q0, q1, qP, qK, qD⟩ := q; exact ⟨q0, q1, qP, va_K.moved (u := U) (U := U.calling g mk a) (Vm.Alike.refl U.vm) qK, qD⟩, va_recv hK hP (ci := 7) (q0 := i4) rfl hi4, fun U hU hW => ⟨rfl, by rw [hU], by rw [hU]; exact hP, va_K.moved hW.alike hK, hD.weaken (fun _ _ _ _ => trivial)⟩⟩ rfl rfl hl.1 rfl (lv_room (Nat.le_of_ble_eq_true rfl)) dX11_feed_24 ⟨Nat.le_of_ble_eq_true rfl, Nat.le_of_ble_eq_true rfl⟩) hS (fun q _ h => hFc q h) hFc (fun w5 t H1 locs ht hvm hw hB hz1 hk1 hS => ?_)
    obtain ⟨hW, hT⟩ := hw
    obtain ⟨hP1, hK1, hD1⟩ := hB
    rw [ht] at hP1
    obtain ⟨hP, hD⟩ := jn_all (w1 := w5) hFc hP1 hD1
    replace hP : va_P (dC, dI) vwCl w5 H1 := hP
    replace hD : va_D A w5 := hD
    clear hFc hP1 hK1 hD1 hk1 hz1 ht hvm
    generalize H1 = H at hP hS ⊢
    refine lv_aload_n hx hb dX11_feed_27 rfl (lv_at hl 0 rfl) ?_
    obtain ⟨i6, hi6⟩ := hW.o11 hk_this
    replace hr := nnS hr
    obtain ⟨a28, hn28, hr⟩ := hr
    have hk_a28 : kd a28 = 8 := hT.1 220 _ _ hn28
    refine va_get (D := (dC, dI)) (ci := 11) (v := .ref (ad a28)) (C := RX11) (T := TX11) (N := 17) hx hb hts inX11 hown hK hP i6 hi6 rfl 0 (by decide) (hts (.fieldLink RX11 12 "SpellTurner" "tape" "LSpellTurner$Tape;") ic_48) (fun _ h9 => h9) (congrArg (fun o => some (va_re ad o)) hn28) dX11_feed_28 ?_
    refine lv_iload_n hx hb dX11_feed_31 rfl (lv_at hl 2 rfl) ?_
    replace hr := b2S hr
    obtain ⟨c32_G141, c32_V0, hc32, hr⟩ := hr
    have hFc := fr_all hD hS hA
    obtain ⟨i7, hi7⟩ := hW.o7 hk_a28
    refine va_callv (va_runV (As := [.int p1]) (rest := []) ⟨hx, hb, hml, hown, hts⟩ (m_X7_append l dC dI kk ad H.size w5 (va_up G 141 c24_G141) P U (va_up V 0 c24_V0) X O kd ln cnt a28 p1 hk_a28 hW hT c32_G141 c32_V0 hc32) (cwV 1 hts gc_RX11_X7_append_108 rfl rfl rfl (by decide +kernel) ⟨Nat.le_of_ble_eq_true rfl, Nat.le_of_ble_eq_true rfl⟩) ⟨fun a U g mk q => by obtain ⟨q0, q1, qP, qK, qD⟩ := q; exact ⟨q0, q1, qP, va_K.moved (u := U) (U := U.calling g mk a) (Vm.Alike.refl U.vm) qK, qD⟩, va_recv hK hP (ci := 7) (q0 := i7) rfl hi7, fun U hU hW => ⟨rfl, by rw [hU], by rw [hU]; exact hP, va_K.moved hW.alike hK, hD.weaken (fun _ _ _ _ => trivial)⟩⟩ rfl rfl hl.1 rfl (lv_room (Nat.le_of_ble_eq_true rfl)) dX11_feed_32 ⟨Nat.le_of_ble_eq_true rfl, Nat.le_of_ble_eq_true rfl⟩) hS (fun q _ h => hFc q h) hFc (fun w8 t H1 locs ht hvm hw hB hz1 hk1 hS => ?_)
    obtain ⟨hW, hT⟩ := hw
    obtain ⟨hP1, hK1, hD1⟩ := hB
    rw [ht] at hP1
    obtain ⟨hP, hD⟩ := jn_all (w1 := w8) hFc hP1 hD1
    replace hP : va_P (dC, dI) vwCl w8 H1 := hP
    replace hD : va_D A w8 := hD
    clear hFc hP1 hK1 hD1 hk1 hz1 ht hvm
    generalize H1 = H at hP hS ⊢
    refine lv_aload_n hx hb dX11_feed_35 rfl (lv_at hl 0 rfl) ?_
    obtain ⟨i9, hi9⟩ := hW.o11 hk_this
    replace hr := nnS hr
    obtain ⟨a36, hn36, hr⟩ := hr
    have hk_a36 : kd a36 = 8 := hT.1 220 _ _ hn36
    refine va_get (D := (dC, dI)) (ci := 11) (v := .ref (ad a36)) (C := RX11) (T := TX11) (N := 17) hx hb hts inX11 hown hK hP i9 hi9 rfl 0 (by decide) (hts (.fieldLink RX11 12 "SpellTurner" "tape" "LSpellTurner$Tape;") ic_48) (fun _ h9 => h9) (congrArg (fun o => some (va_re ad o)) hn36) dX11_feed_36 ?_
    refine lv_iload_n hx hb dX11_feed_39 rfl (lv_at hl 3 rfl) ?_
    replace hr := b2S hr
    obtain ⟨c40_G141, c40_V0, hc40, hr⟩ := hr
    have hFc := fr_all hD hS hA
    obtain ⟨i10, hi10⟩ := hW.o7 hk_a36
    refine va_callv (va_runV (As := [.int p2]) (rest := []) ⟨hx, hb, hml, hown, hts⟩ (m_X7_append l dC dI kk ad H.size w8 (va_up (va_up G 141 c24_G141) 141 c32_G141) P U (va_up (va_up V 0 c24_V0) 0 c32_V0) X O kd ln cnt a36 p2 hk_a36 hW hT c40_G141 c40_V0 hc40) (cwV 1 hts gc_RX11_X7_append_108 rfl rfl rfl (by decide +kernel) ⟨Nat.le_of_ble_eq_true rfl, Nat.le_of_ble_eq_true rfl⟩) ⟨fun a U g mk q => by obtain ⟨q0, q1, qP, qK, qD⟩ := q; exact ⟨q0, q1, qP, va_K.moved (u := U) (U := U.calling g mk a) (Vm.Alike.refl U.vm) qK, qD⟩, va_recv hK hP (ci := 7) (q0 := i10) rfl hi10, fun U hU hW => ⟨rfl, by rw [hU], by rw [hU]; exact hP, va_K.moved hW.alike hK, hD.weaken (fun _ _ _ _ => trivial)⟩⟩ rfl rfl hl.1 rfl (lv_room (Nat.le_of_ble_eq_true rfl)) dX11_feed_40 ⟨Nat.le_of_ble_eq_true rfl, Nat.le_of_ble_eq_true rfl⟩) hS (fun q _ h => hFc q h) hFc (fun w11 t H1 locs ht hvm hw hB hz1 hk1 hS => ?_)
    obtain ⟨hW, hT⟩ := hw
    obtain ⟨hP1, hK1, hD1⟩ := hB
    rw [ht] at hP1
    obtain ⟨hP, hD⟩ := jn_all (w1 := w11) hFc hP1 hD1
    replace hP : va_P (dC, dI) vwCl w11 H1 := hP
    replace hD : va_D A w11 := hD
    clear hFc hP1 hK1 hD1 hk1 hz1 ht hvm
    generalize H1 = H at hP hS ⊢
    refine lv_aload_n hx hb dX11_feed_43 rfl (lv_at hl 0 rfl) ?_
    obtain ⟨i12, hi12⟩ := hW.o11 hk_this
    replace hr := nnS hr
    obtain ⟨a44, hn44, hr⟩ := hr
    have hk_a44 : kd a44 = 8 := hT.1 220 _ _ hn44
    refine va_get (D := (dC, dI)) (ci := 11) (v := .ref (ad a44)) (C := RX11) (T := TX11) (N := 17) hx hb hts inX11 hown hK hP i12 hi12 rfl 0 (by decide) (hts (.fieldLink RX11 12 "SpellTurner" "tape" "LSpellTurner$Tape;") ic_48) (fun _ h9 => h9) (congrArg (fun o => some (va_re ad o)) hn44) dX11_feed_44 ?_
    refine lv_iload hx hb dX11_feed_47 (lv_at hl 4 rfl) ?_
    replace hr := b2S hr
    obtain ⟨c49_G141, c49_V0, hc49, hr⟩ := hr
    have hFc := fr_all hD hS hA
    obtain ⟨i13, hi13⟩ := hW.o7 hk_a44
    refine va_callv (va_runV (As := [.int p3]) (rest := []) ⟨hx, hb, hml, hown, hts⟩ (m_X7_append l dC dI kk ad H.size w11 (va_up (va_up (va_up G 141 c24_G141) 141 c32_G141) 141 c40_G141) P U (va_up (va_up (va_up V 0 c24_V0) 0 c32_V0) 0 c40_V0) X O kd ln cnt a44 p3 hk_a44 hW hT c49_G141 c49_V0 hc49) (cwV 1 hts gc_RX11_X7_append_108 rfl rfl rfl (by decide +kernel) ⟨Nat.le_of_ble_eq_true rfl, Nat.le_of_ble_eq_true rfl⟩) ⟨fun a U g mk q => by obtain ⟨q0, q1, qP, qK, qD⟩ := q; exact ⟨q0, q1, qP, va_K.moved (u := U) (U := U.calling g mk a) (Vm.Alike.refl U.vm) qK, qD⟩, va_recv hK hP (ci := 7) (q0 := i13) rfl hi13, fun U hU hW => ⟨rfl, by rw [hU], by rw [hU]; exact hP, va_K.moved hW.alike hK, hD.weaken (fun _ _ _ _ => trivial)⟩⟩ rfl rfl hl.1 rfl (lv_room (Nat.le_of_ble_eq_true rfl)) dX11_feed_49 ⟨Nat.le_of_ble_eq_true rfl, Nat.le_of_ble_eq_true rfl⟩) hS (fun q _ h => hFc q h) hFc (fun w14 t H1 locs ht hvm hw hB hz1 hk1 hS => ?_)
    obtain ⟨hW, hT⟩ := hw
    obtain ⟨hP1, hK1, hD1⟩ := hB
    rw [ht] at hP1
    obtain ⟨hP, hD⟩ := jn_all (w1 := w14) hFc hP1 hD1
    replace hP : va_P (dC, dI) vwCl w14 H1 := hP
    replace hD : va_D A w14 := hD
    clear hFc hP1 hK1 hD1 hk1 hz1 ht hvm
    generalize H1 = H at hP hS ⊢
    refine lv_aload_n hx hb dX11_feed_52 rfl (lv_at hl 0 rfl) ?_
    obtain ⟨i15, hi15⟩ := hW.o11 hk_this
    replace hr := nnS hr
    obtain ⟨a53, hn53, hr⟩ := hr
    have hk_a53 : kd a53 = 8 := hT.1 220 _ _ hn53
    refine va_get (D := (dC, dI)) (ci := 11) (v := .ref (ad a53)) (C := RX11) (T := TX11) (N := 17) hx hb hts inX11 hown hK hP i15 hi15 rfl 0 (by decide) (hts (.fieldLink RX11 12 "SpellTurner" "tape" "LSpellTurner$Tape;") ic_48) (fun _ h9 => h9) (congrArg (fun o => some (va_re ad o)) hn53) dX11_feed_53 ?_
    refine lv_iload hx hb dX11_feed_56 (lv_at hl 5 rfl) ?_
    replace hr := b2S hr
    obtain ⟨c58_G141, c58_V0, hc58, hr⟩ := hr
    have hFc := fr_all hD hS hA
    obtain ⟨i16, hi16⟩ := hW.o7 hk_a53
    refine va_callv (va_runV (As := [.int p4]) (rest := []) ⟨hx, hb, hml, hown, hts⟩ (m_X7_append l dC dI kk ad H.size w14 (va_up (va_up (va_up (va_up G 141 c24_G141) 141 c32_G141) 141 c40_G141) 141 c49_G141) P U (va_up (va_up (va_up (va_up V 0 c24_V0) 0 c32_V0) 0 c40_V0) 0 c49_V0) X O kd ln cnt a53 p4 hk_a53 hW hT c58_G141 c58_V0 hc58) (cwV 1 hts gc_RX11_X7_append_108 rfl rfl rfl (by decide +kernel) ⟨Nat.le_of_ble_eq_true rfl, Nat.le_of_ble_eq_true rfl⟩) ⟨fun a U g mk q => by obtain ⟨q0, q1, qP, qK, qD⟩ := q; exact ⟨q0, q1, qP, va_K.moved (u := U) (U := U.calling g mk a) (Vm.Alike.refl U.vm) qK, qD⟩, va_recv hK hP (ci := 7) (q0 := i16) rfl hi16, fun U hU hW => ⟨rfl, by rw [hU], by rw [hU]; exact hP, va_K.moved hW.alike hK, hD.weaken (fun _ _ _ _ => trivial)⟩⟩ rfl rfl hl.1 rfl (lv_room (Nat.le_of_ble_eq_true rfl)) dX11_feed_58 ⟨Nat.le_of_ble_eq_true rfl, Nat.le_of_ble_eq_true rfl⟩) hS (fun q _ h => hFc q h) hFc (fun w17 t H1 locs ht hvm hw hB hz1 hk1 hS => ?_)
    obtain ⟨hW, hT⟩ := hw
    obtain ⟨hP1, hK1, hD1⟩ := hB
    rw [ht] at hP1
    obtain ⟨hP, hD⟩ := jn_all (w1 := w17) hFc hP1 hD1
    replace hP : va_P (dC, dI) vwCl w17 H1 := hP
    replace hD : va_D A w17 := hD
    clear hFc hP1 hK1 hD1 hk1 hz1 ht hvm
    generalize H1 = H at hP hS ⊢
    refine lv_aload_n hx hb dX11_feed_61 rfl (lv_at hl 0 rfl) ?_
    obtain ⟨i18, hi18⟩ := hW.o11 hk_this
    replace hr := nnS hr
    obtain ⟨a62, hn62, hr⟩ := hr
    have hk_a62 : kd a62 = 8 := hT.1 220 _ _ hn62
    refine va_get (D := (dC, dI)) (ci := 11) (v := .ref (ad a62)) (C := RX11) (T := TX11) (N := 17) hx hb hts inX11 hown hK hP i18 hi18 rfl 0 (by decide) (hts (.fieldLink RX11 12 "SpellTurner" "tape" "LSpellTurner$Tape;") ic_48) (fun _ h9 => h9) (congrArg (fun o => some (va_re ad o)) hn62) dX11_feed_62 ?_
    obtain ⟨i19, hi19⟩ := hW.o7 hk_a62
    refine va_get (D := (dC, dI)) (ci := 7) (v := .int (c58_G141 a62)) (C := RX7) (T := TX7) (N := 2) hx hb hts inX7 hown hK hP i19 hi19 rfl 1 (by decide) (hts (.fieldLink RX11 105 "SpellTurner$Tape" "length" "I") ic_49) (fun _ h9 => h9) rfl dX11_feed_65 ?_
    have eG : (va_up (va_up (va_up (va_up (va_up G 141 c24_G141) 141 c32_G141) 141 c40_G141) 141 c49_G141) 141 c58_G141) = (va_up G 141 c58_G141) := by
      funext k
      by_cases h141 : k = 141
      · subst h141; rfl
      · simp only [va_up, h141, if_false]
    rw [eG] at hW
    clear eG
    have eV : (va_up (va_up (va_up (va_up (va_up V 0 c24_V0) 0 c32_V0) 0 c40_V0) 0 c49_V0) 0 c58_V0) = (va_up V 0 c58_V0) := by
      funext k
      by_cases h0 : k = 0
      · subst h0; rfl
      · simp only [va_up, h0, if_false]
    rw [eV] at hW
    clear eV
    exact K 68 ls _ _ _ w17 H _ hr dX11_feed_68 hW hT hP hD hS
  · replace hr := iteF c13 hr
    refine lv_bipush (v := (-3)) hx hb dX11_feed_16 (by decide +kernel) ?_
    have eG : G = (va_up G 141 (G 141)) := by
      funext k
      by_cases h141 : k = 141
      · subst h141; rfl
      · simp only [va_up, h141, if_false]
    rw [eG] at hW
    clear eG
    have eV : V = (va_up V 0 (V 0)) := by
      funext k
      by_cases h0 : k = 0
      · subst h0; rfl
      · simp only [va_up, h0, if_false]
    rw [eV] at hW
    clear eV
    exact K 18 ls _ _ _ ws H _ hr dX11_feed_18 hW hT hP hD hS
set_option maxHeartbeats 4000000 in
set_option maxRecDepth 100000 in
theorem m_X11_feed (l : Launch) (dC : Nat → ClassId) (dI : Nat → Nat → Nat) (kk : Nat → ClassId) (ad : Nat → Nat) (sz : Nat) (ws : va_W) (G : Nat → Nat → Int32) (P : Nat → Nat → Option Nat) (U : Nat → Nat → Int64) (V : Nat → Nat → Nat → Int32) (X : Nat → Nat → Nat → Int64) (O : Nat → Nat → Nat → Option Nat) (kd : Nat → Nat) (ln : Nat → Nat) (cnt : Nat) (this : Nat) (p0 : Int32) (p1 : Int32) (p2 : Int32) (p3 : Int32) (p4 : Int32) (hk_this : kd this = 12) (hW : LW ws ad kk kd ln G P U V X O) (hT : TYP kd P O (V 0) cnt) (r : Int32) (c_G141 : Nat → Int32) (c_V0 : Nat → Nat → Int32) (hr : f_X11_feed G P U V X O kd ln cnt this p0 p1 p2 p3 p4 = some (r, c_G141, c_V0)) : Met l yX11_feed vmX11_feed ({ frames := 3, cells := 0, slots := 0, locals := 82 } : Room) (va_Pc [.ref (ad this), .int p0, .int p1, .int p2, .int p3, .int p4] (fun U => U.heap.size = sz ∧ va_P (dC, dI) vwCl ws U.heap ∧ va_K (dC, dI) vwCl (cT kk) U ∧ va_D (fun _ => True) ws)) (va_Qi (fun (rz : Int32) (w : va_W) => rz = r ∧ LW w ad kk kd ln (va_up G 141 c_G141) P U (va_up V 0 c_V0) X O ∧ TYP kd P O c_V0 cnt) (fun w t => va_P (dC, dI) vwCl w t.heap ∧ va_K (dC, dI) vwCl (cT kk) t ∧ va_D (va_A ws sz) w) (va_A ws sz)) 0 0 (va_A ws sz) := by
  refine Met.ofW (cc := cX11_feed) (maxL := 6) (ret := (some .int)) (by decide) rfl ?_
  intro p e s m args below meth c s₁ B hml hv
  obtain ⟨rfl, hsz, hP, hK, hD0⟩ := hv
  have hx := B.exec
  have hb := B.bytes
  have hrt := B.returns
  have hts := atoms_spec (ws := vmX11_feed) B.pre
  have hown : s.vm.findClass RX11 = some m.cls := findClass_of_methodNamed B.named
  subst hsz
  have hD := hD0.self (sz := s.heap.size)
  generalize hAe : va_A ws s.heap.size = A at hD ⊢
  have hA : ∀ q : Nat, s.heap.size ≤ q → A q := fun q h => by rw [← hAe]; exact Or.inr h
  have hS : va_S A s.heap s.heap [] := va_S.rf
  have hl := lv_entry ([.ref (ad this), .int p0, .int p1, .int p2, .int p3, .int p4]) (n := 6) (Nat.le_of_ble_eq_true rfl)
  rw [lg_entry_eq]
  generalize (lg_sl ([.ref (ad this), .int p0, .int p1, .int p2, .int p3, .int p4]) ++ List.replicate (6 - (lg_sl ([.ref (ad this), .int p0, .int p1, .int p2, .int p3, .int p4])).length) Slot.unset).toArray = ls at hl ⊢
  exact bm_X11_feed this p0 p1 p2 p3 p4 hk_this r c_G141 c_V0 hr hx hb hml hown hts hA hK hW hT hP hD hS hl (fun pc ls rz c_G141z c_V0z ws H locs he hd hW hT hP hD hS => by cases he; exact W.iret (v := r) hx hb hrt (fun t ht hW9 => ⟨⟨r, ws, rfl, ⟨rfl, hW, hT⟩, by rw [ht]; exact hP, va_K.moved hW9.alike hK, hD⟩, hS.F ht⟩) hS.2.2 hd)
set_option maxHeartbeats 4000000 in
set_option maxRecDepth 100000 in
theorem bm_X11_end {p : Program} {l : Launch} {e : Env} {s : State} {m : MethodId} {args : Array Value} {below : List Frame} {meth : Method} {c : Code} {Q : State → Prop} {A : Nat → Prop} {dC : Nat → ClassId} {dI : Nat → Nat → Nat} {kk : Nat → ClassId} {ad : Nat → Nat} {ws : va_W} {G : Nat → Nat → Int32} {P : Nat → Nat → Option Nat} {U : Nat → Nat → Int64} {V : Nat → Nat → Nat → Int32} {X : Nat → Nat → Nat → Int64} {O : Nat → Nat → Nat → Option Nat} {kd : Nat → Nat} {ln : Nat → Nat} {cnt : Nat} {H : Heap} {locs : List Loc} {ls : Array Slot} (this : Nat) (p0 : Int32) (hk_this : kd this = 12) (r : Int32) (c_G141 : Nat → Int32) (hr : f_X11_end G P U V X O kd ln cnt this p0 = some (r, c_G141)) (hx : p.tables.exec = Jvm.exec) (hb : c.code = cX11_end) (hml : c.maxLocals = 2) (hown : s.vm.findClass RX11 = some m.cls) (hts : ∀ w ∈ vmX11_end, w.before args s = true) (hA : ∀ q : Nat, s.heap.size ≤ q → A q) (hK : va_K (dC, dI) vwCl (cT kk) s) (hW : LW ws ad kk kd ln G P U V X O) (hT : TYP kd P O (V 0) cnt) (hP : va_P (dC, dI) vwCl ws H) (hD : va_D A ws) (hS : va_S A s.heap H locs) (hl : lv_has ls 2 [(0, .ref (ad this)), (1, .int p0)])
    (K : ∀ (pc : Nat) (ls : Array Slot) (rz : Int32) (c_G141z : Nat → Int32) (ws : va_W) (H : Heap) (locs : List Loc), some (rz, c_G141z) = some (r, c_G141) → decode cX11_end pc = .ok (.ireturn, 1) → LW ws ad kk kd ln (va_up G 141 c_G141z) P U V X O → TYP kd P O (V 0) cnt → va_P (dC, dI) vwCl ws H → va_D A ws → va_S A s.heap H locs → W p l e ({ frames := 2, cells := 0, slots := 0, locals := 60 } : Room) s m args below meth c H locs 0 0 Q (F0 m pc ls [.int rz])) : W p l e ({ frames := 2, cells := 0, slots := 0, locals := 60 } : Room) s m args below meth c H locs 0 0 Q (F0 m 0 ls []) := by
  unfold f_X11_end at hr
  refine lv_iload_n hx hb dX11_end_0 rfl (lv_at hl 1 rfl) ?_
  replace hr := jnS hr
  obtain ⟨j15, hj15, hr⟩ := hr
  have Jj15 : ∀ (ws : va_W) (H : Heap) (locs : List Loc) (ls : Array Slot), j15 () = some (r, c_G141) → LW ws ad kk kd ln G P U V X O → TYP kd P O (V 0) cnt → va_P (dC, dI) vwCl ws H → va_D A ws → va_S A s.heap H locs → lv_has ls 2 [] → W p l e ({ frames := 2, cells := 0, slots := 0, locals := 60 } : Room) s m args below meth c H locs 0 0 Q (F0 m 15 ls []) := by
    intro ws H locs ls hr hW hT hP hD hS hl
    rw [hj15] at hr
    refine lv_iconst (v := (-1)) hx hb dX11_end_15 (by decide +kernel) ?_
    have eG : G = (va_up G 141 (G 141)) := by
      funext k
      by_cases h141 : k = 141
      · subst h141; rfl
      · simp only [va_up, h141, if_false]
    rw [eG] at hW
    clear eG
    exact K 16 ls _ _ ws H _ hr dX11_end_16 hW hT hP hD hS
  refine lv_if_lt (tgt := 15) hx hb dX11_end_1 (by decide) (fun c1 => ?_) (fun c1 => ?_)
  · replace hr := iteT c1 hr
    exact Jj15 ws H _ ls hr hW hT hP hD hS (lv_sub hl [] rfl)
  · replace hr := iteF c1 hr
    refine lv_iload_n hx hb dX11_end_4 rfl (lv_at hl 1 rfl) ?_
    refine lv_aload_n hx hb dX11_end_5 rfl (lv_at hl 0 rfl) ?_
    obtain ⟨i1, hi1⟩ := hW.o11 hk_this
    replace hr := nnS hr
    obtain ⟨a6, hn6, hr⟩ := hr
    have hk_a6 : kd a6 = 8 := hT.1 220 _ _ hn6
    refine va_get (D := (dC, dI)) (ci := 11) (v := .ref (ad a6)) (C := RX11) (T := TX11) (N := 17) hx hb hts inX11 hown hK hP i1 hi1 rfl 0 (by decide) (hts (.fieldLink RX11 12 "SpellTurner" "tape" "LSpellTurner$Tape;") ic_48) (fun _ h9 => h9) (congrArg (fun o => some (va_re ad o)) hn6) dX11_end_6 ?_
    obtain ⟨i2, hi2⟩ := hW.o7 hk_a6
    refine va_get (D := (dC, dI)) (ci := 7) (v := .int ((G 141) a6)) (C := RX7) (T := TX7) (N := 2) hx hb hts inX7 hown hK hP i2 hi2 rfl 1 (by decide) (hts (.fieldLink RX11 105 "SpellTurner$Tape" "length" "I") ic_49) (fun _ h9 => h9) rfl dX11_end_9 ?_
    refine lv_icmp_le (tgt := 17) hx hb dX11_end_12 (by decide) (fun c12 => ?_) (fun c12 => ?_)
    · replace hr := iteT c12 hr
      refine lv_aload_n hx hb dX11_end_17 rfl (lv_at hl 0 rfl) ?_
      obtain ⟨i3, hi3⟩ := hW.o11 hk_this
      replace hr := nnS hr
      obtain ⟨a18, hn18, hr⟩ := hr
      have hk_a18 : kd a18 = 8 := hT.1 220 _ _ hn18
      refine va_get (D := (dC, dI)) (ci := 11) (v := .ref (ad a18)) (C := RX11) (T := TX11) (N := 17) hx hb hts inX11 hown hK hP i3 hi3 rfl 0 (by decide) (hts (.fieldLink RX11 12 "SpellTurner" "tape" "LSpellTurner$Tape;") ic_48) (fun _ h9 => h9) (congrArg (fun o => some (va_re ad o)) hn18) dX11_end_18 ?_
      refine lv_iload_n hx hb dX11_end_21 rfl (lv_at hl 1 rfl) ?_
      obtain ⟨i4, hi4⟩ := hW.o7 hk_a18
      refine va_put (D := (dC, dI)) (ci := 7) (v := .int p0) (ty := .int) (C := RX7) (T := TX7) (N := 2) hx hb hts inX7 tyX7 tyX7_ok nmX7 hown hK hP hD hS i4 hi4 rfl 1 (by decide) (hts (.fieldLink RX11 105 "SpellTurner$Tape" "length" "I") ic_49) (fun _ h9 => h9) rfl (by decide +kernel) rfl rfl (Nat.le_of_ble_eq_true rfl) dX11_end_22 (fun H locs hP2 hD2 hS => ?_)
      obtain ⟨m22, w5, em22, hP, hD, hW⟩ : ∃ (z : Nat → Int32) (w : va_W), z = (va_up (G 141) a18 p0) ∧ va_P (dC, dI) vwCl w H ∧ va_D A w ∧ LW w ad kk kd ln (va_up G 141 z) P U V X O := ⟨_, _, rfl, hP2, hD2, hW.setG hD hi4 (by rw [hk_a18]; decide) 141 p0 (by rw [hk_a18]; rfl)⟩
      replace hr := vlS hr m22 em22
      clear em22
      refine lv_iload_n hx hb dX11_end_25 rfl (lv_at hl 1 rfl) ?_
      exact K 26 ls _ _ w5 H _ hr dX11_end_26 hW hT hP hD hS
    · replace hr := iteF c12 hr
      exact Jj15 ws H _ ls hr hW hT hP hD hS (lv_sub hl [] rfl)
set_option maxHeartbeats 4000000 in
set_option maxRecDepth 100000 in
theorem m_X11_end (l : Launch) (dC : Nat → ClassId) (dI : Nat → Nat → Nat) (kk : Nat → ClassId) (ad : Nat → Nat) (sz : Nat) (ws : va_W) (G : Nat → Nat → Int32) (P : Nat → Nat → Option Nat) (U : Nat → Nat → Int64) (V : Nat → Nat → Nat → Int32) (X : Nat → Nat → Nat → Int64) (O : Nat → Nat → Nat → Option Nat) (kd : Nat → Nat) (ln : Nat → Nat) (cnt : Nat) (this : Nat) (p0 : Int32) (hk_this : kd this = 12) (hW : LW ws ad kk kd ln G P U V X O) (hT : TYP kd P O (V 0) cnt) (r : Int32) (c_G141 : Nat → Int32) (hr : f_X11_end G P U V X O kd ln cnt this p0 = some (r, c_G141)) : Met l yX11_end vmX11_end ({ frames := 2, cells := 0, slots := 0, locals := 60 } : Room) (va_Pc [.ref (ad this), .int p0] (fun U => U.heap.size = sz ∧ va_P (dC, dI) vwCl ws U.heap ∧ va_K (dC, dI) vwCl (cT kk) U ∧ va_D (fun _ => True) ws)) (va_Qi (fun (rz : Int32) (w : va_W) => rz = r ∧ LW w ad kk kd ln (va_up G 141 c_G141) P U V X O ∧ TYP kd P O (V 0) cnt) (fun w t => va_P (dC, dI) vwCl w t.heap ∧ va_K (dC, dI) vwCl (cT kk) t ∧ va_D (va_A ws sz) w) (va_A ws sz)) 0 0 (va_A ws sz) := by
  refine Met.ofW (cc := cX11_end) (maxL := 2) (ret := (some .int)) (by decide) rfl ?_
  intro p e s m args below meth c s₁ B hml hv
  obtain ⟨rfl, hsz, hP, hK, hD0⟩ := hv
  have hx := B.exec
  have hb := B.bytes
  have hrt := B.returns
  have hts := atoms_spec (ws := vmX11_end) B.pre
  have hown : s.vm.findClass RX11 = some m.cls := findClass_of_methodNamed B.named
  subst hsz
  have hD := hD0.self (sz := s.heap.size)
  generalize hAe : va_A ws s.heap.size = A at hD ⊢
  have hA : ∀ q : Nat, s.heap.size ≤ q → A q := fun q h => by rw [← hAe]; exact Or.inr h
  have hS : va_S A s.heap s.heap [] := va_S.rf
  have hl := lv_entry ([.ref (ad this), .int p0]) (n := 2) (Nat.le_of_ble_eq_true rfl)
  rw [lg_entry_eq]
  generalize (lg_sl ([.ref (ad this), .int p0]) ++ List.replicate (2 - (lg_sl ([.ref (ad this), .int p0])).length) Slot.unset).toArray = ls at hl ⊢
  exact bm_X11_end this p0 hk_this r c_G141 hr hx hb hml hown hts hA hK hW hT hP hD hS hl (fun pc ls rz c_G141z ws H locs he hd hW hT hP hD hS => by cases he; exact W.iret (v := r) hx hb hrt (fun t ht hW9 => ⟨⟨r, ws, rfl, ⟨rfl, hW, hT⟩, by rw [ht]; exact hP, va_K.moved hW9.alike hK, hD⟩, hS.F ht⟩) hS.2.2 hd)
set_option maxHeartbeats 4000000 in
set_option maxRecDepth 100000 in
theorem bm_X11_reformAt {p : Program} {l : Launch} {e : Env} {s : State} {m : MethodId} {args : Array Value} {below : List Frame} {meth : Method} {c : Code} {Q : State → Prop} {A : Nat → Prop} {dC : Nat → ClassId} {dI : Nat → Nat → Nat} {kk : Nat → ClassId} {ad : Nat → Nat} {ws : va_W} {G : Nat → Nat → Int32} {P : Nat → Nat → Option Nat} {U : Nat → Nat → Int64} {V : Nat → Nat → Nat → Int32} {X : Nat → Nat → Nat → Int64} {O : Nat → Nat → Nat → Option Nat} {kd : Nat → Nat} {ln : Nat → Nat} {cnt : Nat} {H : Heap} {locs : List Loc} {ls : Array Slot} (this : Nat) (p0 : Int32) (hk_this : kd this = 12) (r : Option Nat) (hr : f_X11_reformAt G P U V X O kd ln cnt this p0 = some r) (hx : p.tables.exec = Jvm.exec) (hb : c.code = cX11_reformAt) (hml : c.maxLocals = 2) (hown : s.vm.findClass RX11 = some m.cls) (hts : ∀ w ∈ vmX11_reformAt, w.before args s = true) (hA : ∀ q : Nat, s.heap.size ≤ q → A q) (hK : va_K (dC, dI) vwCl (cT kk) s) (hW : LW ws ad kk kd ln G P U V X O) (hT : TYP kd P O (V 0) cnt) (hP : va_P (dC, dI) vwCl ws H) (hD : va_D A ws) (hS : va_S A s.heap H locs) (hl : lv_has ls 2 [(0, .ref (ad this)), (1, .int p0)])
    (K : ∀ (pc : Nat) (ls : Array Slot) (rz : Option Nat) (ws : va_W) (H : Heap) (locs : List Loc), some rz = some r → (∀ b, rz = some b → kd b = 6) → decode cX11_reformAt pc = .ok (.areturn, 1) → LW ws ad kk kd ln G P U V X O → TYP kd P O (V 0) cnt → va_P (dC, dI) vwCl ws H → va_D A ws → va_S A s.heap H locs → W p l e ({ frames := 2, cells := 0, slots := 0, locals := 60 } : Room) s m args below meth c H locs 0 0 Q (F0 m pc ls [va_re ad rz])) : W p l e ({ frames := 2, cells := 0, slots := 0, locals := 60 } : Room) s m args below meth c H locs 0 0 Q (F0 m 0 ls []) := by
  unfold f_X11_reformAt at hr
  refine lv_iload_n hx hb dX11_reformAt_0 rfl (lv_at hl 1 rfl) ?_
  replace hr := jnS hr
  obtain ⟨j22, hj22, hr⟩ := hr
  have Jj22 : ∀ (t22_0 : Option Nat) (ws : va_W) (H : Heap) (locs : List Loc) (ls : Array Slot), j22 t22_0 = some r → LW ws ad kk kd ln G P U V X O → TYP kd P O (V 0) cnt → va_P (dC, dI) vwCl ws H → va_D A ws → va_S A s.heap H locs → lv_has ls 2 [] → (∀ b, t22_0 = some b → kd b = 6) → W p l e ({ frames := 2, cells := 0, slots := 0, locals := 60 } : Room) s m args below meth c H locs 0 0 Q (F0 m 22 ls [va_re ad t22_0]) := by
    intro t22_0 ws H locs ls hr hW hT hP hD hS hl hk_t22_0
    rw [hj22] at hr
    exact K 22 ls _ ws H _ hr hk_t22_0 dX11_reformAt_22 hW hT hP hD hS
  replace hr := jnS hr
  obtain ⟨j12, hj12, hr⟩ := hr
  have Jj12 : ∀ (ws : va_W) (H : Heap) (locs : List Loc) (ls : Array Slot), j12 () = some r → LW ws ad kk kd ln G P U V X O → TYP kd P O (V 0) cnt → va_P (dC, dI) vwCl ws H → va_D A ws → va_S A s.heap H locs → lv_has ls 2 [] → W p l e ({ frames := 2, cells := 0, slots := 0, locals := 60 } : Room) s m args below meth c H locs 0 0 Q (F0 m 12 ls []) := by
    intro ws H locs ls hr hW hT hP hD hS hl
    rw [hj12] at hr
    refine lv_null hx hb dX11_reformAt_12 ?_
    refine lv_goto (tgt := 22) hx hb dX11_reformAt_13 (by decide) ?_
    exact Jj22 none ws H _ ls hr hW hT hP hD hS (lv_sub hl [] rfl) (fun b hq => by cases hq)
  refine lv_if_lt (tgt := 12) hx hb dX11_reformAt_1 (by decide) (fun c1 => ?_) (fun c1 => ?_)
  · replace hr := iteT c1 hr
    exact Jj12 ws H _ ls hr hW hT hP hD hS (lv_sub hl [] rfl)
  · replace hr := iteF c1 hr
    refine lv_iload_n hx hb dX11_reformAt_4 rfl (lv_at hl 1 rfl) ?_
    refine lv_aload_n hx hb dX11_reformAt_5 rfl (lv_at hl 0 rfl) ?_
    obtain ⟨i1, hi1⟩ := hW.o11 hk_this
    refine va_get (D := (dC, dI)) (ci := 11) (v := .int ((G 222) this)) (C := RX11) (T := TX11) (N := 17) hx hb hts inX11 hown hK hP i1 hi1 rfl 2 (by decide) (hts (.fieldLink RX11 22 "SpellTurner" "reformCount" "I") ic_55) (fun _ h9 => h9) rfl dX11_reformAt_6 ?_
    refine lv_icmp_lt (tgt := 16) hx hb dX11_reformAt_9 (by decide) (fun c9 => ?_) (fun c9 => ?_)
    · replace hr := iteT c9 hr
      refine lv_aload_n hx hb dX11_reformAt_16 rfl (lv_at hl 0 rfl) ?_
      obtain ⟨i2, hi2⟩ := hW.o11 hk_this
      replace hr := nnS hr
      obtain ⟨a17, hn17, hr⟩ := hr
      have hk_a17 : kd a17 = 302 := hT.1 221 _ _ hn17
      refine va_get (D := (dC, dI)) (ci := 11) (v := .ref (ad a17)) (C := RX11) (T := TX11) (N := 17) hx hb hts inX11 hown hK hP i2 hi2 rfl 1 (by decide) (hts (.fieldLink RX11 18 "SpellTurner" "reforms" "[LSpellTurner$Reform;") ic_56) (fun _ h9 => h9) (congrArg (fun o => some (va_re ad o)) hn17) dX11_reformAt_17 ?_
      refine lv_iload_n hx hb dX11_reformAt_20 rfl (lv_at hl 1 rfl) ?_
      obtain ⟨i3, hi3⟩ := hW.q2 hk_a17
      replace hr := iteS hr
      obtain ⟨hi21, hr⟩ := hr
      refine va_aldq (C := RX5) (f := fun i => ((O 2) a17 i).map ad) hx hb hK hP i3 6 hi3 rfl (inbV hi21) dX11_reformAt_21 ?_
      refine lv_tope (ad := ad) (o := ((O 2) a17 (Int32.toNatClampNeg p0))) (fun o21 eo21 => ?_)
      have hk_o21 : ∀ b, o21 = some b → kd b = 6 := fun b hq => hT.2.1 2 _ _ b (eo21.symm.trans hq)
      replace hr := vlS hr o21 eo21
      clear eo21
      exact Jj22 o21 ws H _ ls hr hW hT hP hD hS (lv_sub hl [] rfl) hk_o21
    · replace hr := iteF c9 hr
      exact Jj12 ws H _ ls hr hW hT hP hD hS (lv_sub hl [] rfl)
set_option maxHeartbeats 4000000 in
set_option maxRecDepth 100000 in
theorem m_X11_reformAt (l : Launch) (dC : Nat → ClassId) (dI : Nat → Nat → Nat) (kk : Nat → ClassId) (ad : Nat → Nat) (sz : Nat) (ws : va_W) (G : Nat → Nat → Int32) (P : Nat → Nat → Option Nat) (U : Nat → Nat → Int64) (V : Nat → Nat → Nat → Int32) (X : Nat → Nat → Nat → Int64) (O : Nat → Nat → Nat → Option Nat) (kd : Nat → Nat) (ln : Nat → Nat) (cnt : Nat) (this : Nat) (p0 : Int32) (hk_this : kd this = 12) (hW : LW ws ad kk kd ln G P U V X O) (hT : TYP kd P O (V 0) cnt) (r : Option Nat) (hr : f_X11_reformAt G P U V X O kd ln cnt this p0 = some r) : Met l yX11_reformAt vmX11_reformAt ({ frames := 2, cells := 0, slots := 0, locals := 60 } : Room) (va_Pc [.ref (ad this), .int p0] (fun U => U.heap.size = sz ∧ va_P (dC, dI) vwCl ws U.heap ∧ va_K (dC, dI) vwCl (cT kk) U ∧ va_D (fun _ => True) ws)) (va_Qe ad (fun (rz : Option Nat) (w : va_W) => rz = r ∧ LW w ad kk kd ln G P U V X O ∧ TYP kd P O (V 0) cnt ∧ (∀ b, r = some b → kd b = 6)) (fun w t => va_P (dC, dI) vwCl w t.heap ∧ va_K (dC, dI) vwCl (cT kk) t ∧ va_D (va_A ws sz) w) (va_A ws sz)) 0 0 (va_A ws sz) := by
  refine Met.ofW (cc := cX11_reformAt) (maxL := 2) (ret := (some (.object "SpellTurner$Reform"))) (by decide) rfl ?_
  intro p e s m args below meth c s₁ B hml hv
  obtain ⟨rfl, hsz, hP, hK, hD0⟩ := hv
  have hx := B.exec
  have hb := B.bytes
  have hrt := B.returns
  have hts := atoms_spec (ws := vmX11_reformAt) B.pre
  have hown : s.vm.findClass RX11 = some m.cls := findClass_of_methodNamed B.named
  subst hsz
  have hD := hD0.self (sz := s.heap.size)
  generalize hAe : va_A ws s.heap.size = A at hD ⊢
  have hA : ∀ q : Nat, s.heap.size ≤ q → A q := fun q h => by rw [← hAe]; exact Or.inr h
  have hS : va_S A s.heap s.heap [] := va_S.rf
  have hl := lv_entry ([.ref (ad this), .int p0]) (n := 2) (Nat.le_of_ble_eq_true rfl)
  rw [lg_entry_eq]
  generalize (lg_sl ([.ref (ad this), .int p0]) ++ List.replicate (2 - (lg_sl ([.ref (ad this), .int p0])).length) Slot.unset).toArray = ls at hl ⊢
  exact bm_X11_reformAt this p0 hk_this r hr hx hb hml hown hts hA hK hW hT hP hD hS hl (fun pc ls rz ws H locs he hkq hd hW hT hP hD hS => by cases he; exact W.aret (v := va_re ad r) hx hb hrt (Or.inl ⟨_, rfl⟩) (va_re_or ad r) (fun t ht hW9 => ⟨⟨r, ws, rfl, ⟨rfl, hW, hT, hkq⟩, by rw [ht]; exact hP, va_K.moved hW9.alike hK, hD⟩, hS.F ht⟩) hS.2.2 hd)
set_option maxHeartbeats 4000000 in
set_option maxRecDepth 100000 in
theorem bm_X11_stage {p : Program} {l : Launch} {e : Env} {s : State} {m : MethodId} {args : Array Value} {below : List Frame} {meth : Method} {c : Code} {Q : State → Prop} {A : Nat → Prop} {dC : Nat → ClassId} {dI : Nat → Nat → Nat} {kk : Nat → ClassId} {ad : Nat → Nat} {ws : va_W} {G : Nat → Nat → Int32} {P : Nat → Nat → Option Nat} {U : Nat → Nat → Int64} {V : Nat → Nat → Nat → Int32} {X : Nat → Nat → Nat → Int64} {O : Nat → Nat → Nat → Option Nat} {kd : Nat → Nat} {ln : Nat → Nat} {cnt : Nat} {H : Heap} {locs : List Loc} {ls : Array Slot} (this : Nat) (p0 : Int32) (hk_this : kd this = 12) (r : Int32) (hr : f_X11_stage G P U V X O kd ln cnt this p0 = some r) (hx : p.tables.exec = Jvm.exec) (hb : c.code = cX11_stage) (hml : c.maxLocals = 5) (hown : s.vm.findClass RX11 = some m.cls) (hts : ∀ w ∈ vmX11_stage, w.before args s = true) (hA : ∀ q : Nat, s.heap.size ≤ q → A q) (hK : va_K (dC, dI) vwCl (cT kk) s) (hW : LW ws ad kk kd ln G P U V X O) (hT : TYP kd P O (V 0) cnt) (hP : va_P (dC, dI) vwCl ws H) (hD : va_D A ws) (hS : va_S A s.heap H locs) (hl : lv_has ls 5 [(0, .ref (ad this)), (1, .int p0)])
    (K : ∀ (pc : Nat) (ls : Array Slot) (rz : Int32) (ws : va_W) (H : Heap) (locs : List Loc), some rz = some r → decode cX11_stage pc = .ok (.ireturn, 1) → LW ws ad kk kd ln G P U V X O → TYP kd P O (V 0) cnt → va_P (dC, dI) vwCl ws H → va_D A ws → va_S A s.heap H locs → W p l e ({ frames := 2, cells := 0, slots := 0, locals := 60 } : Room) s m args below meth c H locs 0 0 Q (F0 m pc ls [.int rz])) : W p l e ({ frames := 2, cells := 0, slots := 0, locals := 60 } : Room) s m args below meth c H locs 0 0 Q (F0 m 0 ls []) := by
  unfold f_X11_stage at hr
  refine lv_iload_n hx hb dX11_stage_0 rfl (lv_at hl 1 rfl) ?_
  replace hr := jnS hr
  obtain ⟨j10, hj10, hr⟩ := hr
  have Jj10 : ∀ (ws : va_W) (H : Heap) (locs : List Loc) (ls : Array Slot), j10 () = some r → LW ws ad kk kd ln G P U V X O → TYP kd P O (V 0) cnt → va_P (dC, dI) vwCl ws H → va_D A ws → va_S A s.heap H locs → lv_has ls 5 [] → W p l e ({ frames := 2, cells := 0, slots := 0, locals := 60 } : Room) s m args below meth c H locs 0 0 Q (F0 m 10 ls []) := by
    intro ws H locs ls hr hW hT hP hD hS hl
    rw [hj10] at hr
    refine lv_bipush (v := (-2)) hx hb dX11_stage_10 (by decide +kernel) ?_
    exact K 12 ls _ ws H _ hr dX11_stage_12 hW hT hP hD hS
  refine lv_if_lt (tgt := 10) hx hb dX11_stage_1 (by decide) (fun c1 => ?_) (fun c1 => ?_)
  · replace hr := iteT c1 hr
    exact Jj10 ws H _ ls hr hW hT hP hD hS (lv_sub hl [] rfl)
  · replace hr := iteF c1 hr
    refine lv_iload_n hx hb dX11_stage_4 rfl (lv_at hl 1 rfl) ?_
    refine lv_ldc (own := RX11) (v := 100000) hx hb hown (hts (.constant RX11 116 (100000)) ic_58) dX11_stage_5 ?_
    refine lv_icmp_le (tgt := 13) hx hb dX11_stage_7 (by decide) (fun c7 => ?_) (fun c7 => ?_)
    · replace hr := iteT c7 hr
      refine lv_iconst (v := 0) hx hb dX11_stage_13 (by decide +kernel) ?_
      refine lv_istore_n (lv' := [(2, .int 0), (0, .ref (ad this)), (1, .int p0)]) hx hb dX11_stage_14 rfl hl (by decide) rfl (fun ls hl => ?_)
      refine lv_iconst (v := 0) hx hb dX11_stage_15 (by decide +kernel) ?_
      refine lv_istore_n (lv' := [(3, .int 0), (2, .int 0), (0, .ref (ad this)), (1, .int p0)]) hx hb dX11_stage_16 rfl hl (by decide) rfl (fun ls hl => ?_)
      have lp17 : ∀ (n17 : Nat), ∀ (y17_2 : Int32) (y17_3 : Int32) (ws : va_W) (H : Heap) (locs : List Loc) (ls : Array Slot), L_X11_stage_17 G P O ln this p0 n17 y17_2 y17_3 = some r → LW ws ad kk kd ln G P U V X O → TYP kd P O (V 0) cnt → va_P (dC, dI) vwCl ws H → va_D A ws → va_S A s.heap H locs → lv_has ls 5 [(0, .ref (ad this)), (1, .int p0), (2, .int y17_2), (3, .int y17_3)] → W p l e ({ frames := 2, cells := 0, slots := 0, locals := 60 } : Room) s m args below meth c H locs 0 0 Q (F0 m 17 ls []) := by
        intro n17
        induction n17 with
        | zero => intro y17_2 y17_3 ws H locs ls hr hW hT hP hD hS hl; exact nomatch (show none = some r from hr)
        | succ n17 ih17 =>
          intro y17_2 y17_3 ws H locs ls hr hW hT hP hD hS hl
          replace hr : B_X11_stage_17 G P O ln this p0 (L_X11_stage_17 G P O ln this p0 n17) y17_2 y17_3 = some r := hr
          unfold B_X11_stage_17 at hr
          refine lv_iload_n hx hb dX11_stage_17 rfl (lv_at hl 3 rfl) ?_
          refine lv_aload_n hx hb dX11_stage_18 rfl (lv_at hl 0 rfl) ?_
          obtain ⟨i1, hi1⟩ := hW.o11 hk_this
          refine va_get (D := (dC, dI)) (ci := 11) (v := .int ((G 222) this)) (C := RX11) (T := TX11) (N := 17) hx hb hts inX11 hown hK hP i1 hi1 rfl 2 (by decide) (hts (.fieldLink RX11 22 "SpellTurner" "reformCount" "I") ic_55) (fun _ h9 => h9) rfl dX11_stage_19 ?_
          refine lv_icmp_ge (tgt := 56) hx hb dX11_stage_22 (by decide) (fun c22 => ?_) (fun c22 => ?_)
          · replace hr := iteT c22 hr
            refine lv_iload_n hx hb dX11_stage_56 rfl (lv_at hl 2 rfl) ?_
            exact K 57 ls _ ws H _ hr dX11_stage_57 hW hT hP hD hS
          · replace hr := iteF c22 hr
            refine lv_aload_n hx hb dX11_stage_25 rfl (lv_at hl 0 rfl) ?_
            obtain ⟨i2, hi2⟩ := hW.o11 hk_this
            replace hr := nnS hr
            obtain ⟨a26, hn26, hr⟩ := hr
            have hk_a26 : kd a26 = 302 := hT.1 221 _ _ hn26
            refine va_get (D := (dC, dI)) (ci := 11) (v := .ref (ad a26)) (C := RX11) (T := TX11) (N := 17) hx hb hts inX11 hown hK hP i2 hi2 rfl 1 (by decide) (hts (.fieldLink RX11 18 "SpellTurner" "reforms" "[LSpellTurner$Reform;") ic_56) (fun _ h9 => h9) (congrArg (fun o => some (va_re ad o)) hn26) dX11_stage_26 ?_
            refine lv_iload_n hx hb dX11_stage_29 rfl (lv_at hl 3 rfl) ?_
            obtain ⟨i3, hi3⟩ := hW.q2 hk_a26
            replace hr := iteS hr
            obtain ⟨hi30, hr⟩ := hr
            refine va_aldq (C := RX5) (f := fun i => ((O 2) a26 i).map ad) hx hb hK hP i3 6 hi3 rfl (inbV hi30) dX11_stage_30 ?_
            refine lv_tope (ad := ad) (o := ((O 2) a26 (Int32.toNatClampNeg y17_3))) (fun o30 eo30 => ?_)
            have hk_o30 : ∀ b, o30 = some b → kd b = 6 := fun b hq => hT.2.1 2 _ _ b (eo30.symm.trans hq)
            replace hr := vlS hr o30 eo30
            clear eo30
            refine lq_astore (lv' := [(4, va_re ad o30), (0, .ref (ad this)), (1, .int p0), (2, .int y17_2), (3, .int y17_3)]) hx hb dX11_stage_31 hl (by decide) rfl (fun ls hl => ?_)
            refine lq_aload hx hb dX11_stage_33 (lv_at hl 0 rfl) ?_
            replace hr := jnS hr
            obtain ⟨j50, hj50, hr⟩ := hr
            have Jj50 : ∀ (x50_2 : Int32) (ws : va_W) (H : Heap) (locs : List Loc) (ls : Array Slot), j50 x50_2 = some r → LW ws ad kk kd ln G P U V X O → TYP kd P O (V 0) cnt → va_P (dC, dI) vwCl ws H → va_D A ws → va_S A s.heap H locs → lv_has ls 5 [(0, .ref (ad this)), (1, .int p0), (2, .int x50_2), (3, .int y17_3)] → W p l e ({ frames := 2, cells := 0, slots := 0, locals := 60 } : Room) s m args below meth c H locs 0 0 Q (F0 m 50 ls []) := by
              intro x50_2 ws H locs ls hr hW hT hP hD hS hl
              rw [hj50] at hr
              refine lv_iinc (v := (y17_3 + 1)) (lv' := [(3, .int (y17_3 + 1)), (0, .ref (ad this)), (1, .int p0), (2, .int x50_2)]) hx hb dX11_stage_50 hl (k := 3) rfl rfl (by decide) rfl (fun ls hl => ?_)
              refine lv_goto (tgt := 17) hx hb dX11_stage_53 (by decide) ?_
              exact ih17 x50_2 (y17_3 + 1) ws H _ ls hr hW hT hP hD hS (lv_sub hl [1, 2, 3, 0] rfl)
            refine lq_ifnull (tgt := 50) hx hb dX11_stage_35 (by decide) (fun c35 => ?_) (fun b35 c35 => ?_)
            · subst c35
              replace hr := ocN hr
              replace hl : lv_has ls 5 [(4, .null), (0, .ref (ad this)), (1, .int p0), (2, .int y17_2), (3, .int y17_3)] := hl
              exact Jj50 y17_2 ws H _ ls hr hW hT hP hD hS (lv_sub hl [1, 2, 3, 4] rfl)
            · subst c35
              replace hr := ocS hr
              replace hl : lv_has ls 5 [(4, .ref (ad b35)), (0, .ref (ad this)), (1, .int p0), (2, .int y17_2), (3, .int y17_3)] := hl
              have hk_b35 := hk_o30 b35 rfl
              refine lv_aload hx hb dX11_stage_38 (lv_at hl 0 rfl) ?_
              obtain ⟨i4, hi4⟩ := hW.o5 hk_b35
              refine va_get (D := (dC, dI)) (ci := 5) (v := .int ((G 100) b35)) (C := RX5) (T := TX5) (N := 11) hx hb hts inX5 hown hK hP i4 hi4 rfl 0 (by decide) (hts (.fieldLink RX11 142 "SpellTurner$Reform" "day" "I") ic_59) (fun _ h9 => h9) rfl dX11_stage_40 ?_
              refine lv_iload_n hx hb dX11_stage_43 rfl (lv_at hl 2 rfl) ?_
              refine lv_icmp_gt (tgt := 50) hx hb dX11_stage_44 (by decide) (fun c44 => ?_) (fun c44 => ?_)
              · replace hr := iteT c44 hr
                exact Jj50 y17_2 ws H _ ls hr hW hT hP hD hS (lv_sub hl [1, 2, 3, 4] rfl)
              · replace hr := iteF c44 hr
                refine lv_iinc (v := (y17_2 + 1)) (lv' := [(2, .int (y17_2 + 1)), (4, .ref (ad b35)), (0, .ref (ad this)), (1, .int p0), (3, .int y17_3)]) hx hb dX11_stage_47 hl (k := 3) rfl rfl (by decide) rfl (fun ls hl => ?_)
                exact Jj50 (y17_2 + 1) ws H _ ls hr hW hT hP hD hS (lv_sub hl [2, 3, 0, 4] rfl)
      exact lp17 NN 0 0 ws H _ ls hr hW hT hP hD hS (lv_sub hl [2, 3, 1, 0] rfl)
    · replace hr := iteF c7 hr
      exact Jj10 ws H _ ls hr hW hT hP hD hS (lv_sub hl [] rfl)
set_option maxHeartbeats 4000000 in
set_option maxRecDepth 100000 in
theorem m_X11_stage (l : Launch) (dC : Nat → ClassId) (dI : Nat → Nat → Nat) (kk : Nat → ClassId) (ad : Nat → Nat) (sz : Nat) (ws : va_W) (G : Nat → Nat → Int32) (P : Nat → Nat → Option Nat) (U : Nat → Nat → Int64) (V : Nat → Nat → Nat → Int32) (X : Nat → Nat → Nat → Int64) (O : Nat → Nat → Nat → Option Nat) (kd : Nat → Nat) (ln : Nat → Nat) (cnt : Nat) (this : Nat) (p0 : Int32) (hk_this : kd this = 12) (hW : LW ws ad kk kd ln G P U V X O) (hT : TYP kd P O (V 0) cnt) (r : Int32) (hr : f_X11_stage G P U V X O kd ln cnt this p0 = some r) : Met l yX11_stage vmX11_stage ({ frames := 2, cells := 0, slots := 0, locals := 60 } : Room) (va_Pc [.ref (ad this), .int p0] (fun U => U.heap.size = sz ∧ va_P (dC, dI) vwCl ws U.heap ∧ va_K (dC, dI) vwCl (cT kk) U ∧ va_D (fun _ => True) ws)) (va_Qi (fun (rz : Int32) (w : va_W) => rz = r ∧ LW w ad kk kd ln G P U V X O ∧ TYP kd P O (V 0) cnt) (fun w t => va_P (dC, dI) vwCl w t.heap ∧ va_K (dC, dI) vwCl (cT kk) t ∧ va_D (va_A ws sz) w) (va_A ws sz)) 0 0 (va_A ws sz) := by
  refine Met.ofW (cc := cX11_stage) (maxL := 5) (ret := (some .int)) (by decide) rfl ?_
  intro p e s m args below meth c s₁ B hml hv
  obtain ⟨rfl, hsz, hP, hK, hD0⟩ := hv
  have hx := B.exec
  have hb := B.bytes
  have hrt := B.returns
  have hts := atoms_spec (ws := vmX11_stage) B.pre
  have hown : s.vm.findClass RX11 = some m.cls := findClass_of_methodNamed B.named
  subst hsz
  have hD := hD0.self (sz := s.heap.size)
  generalize hAe : va_A ws s.heap.size = A at hD ⊢
  have hA : ∀ q : Nat, s.heap.size ≤ q → A q := fun q h => by rw [← hAe]; exact Or.inr h
  have hS : va_S A s.heap s.heap [] := va_S.rf
  have hl := lv_entry ([.ref (ad this), .int p0]) (n := 5) (Nat.le_of_ble_eq_true rfl)
  rw [lg_entry_eq]
  generalize (lg_sl ([.ref (ad this), .int p0]) ++ List.replicate (5 - (lg_sl ([.ref (ad this), .int p0])).length) Slot.unset).toArray = ls at hl ⊢
  exact bm_X11_stage this p0 hk_this r hr hx hb hml hown hts hA hK hW hT hP hD hS hl (fun pc ls rz ws H locs he hd hW hT hP hD hS => by cases he; exact W.iret (v := r) hx hb hrt (fun t ht hW9 => ⟨⟨r, ws, rfl, ⟨rfl, hW, hT⟩, by rw [ht]; exact hP, va_K.moved hW9.alike hK, hD⟩, hS.F ht⟩) hS.2.2 hd)
set_option maxHeartbeats 4000000 in
set_option maxRecDepth 100000 in
theorem bm_X11_about {p : Program} {l : Launch} {e : Env} {s : State} {m : MethodId} {args : Array Value} {below : List Frame} {meth : Method} {c : Code} {Q : State → Prop} {A : Nat → Prop} {dC : Nat → ClassId} {dI : Nat → Nat → Nat} {kk : Nat → ClassId} {ad : Nat → Nat} {ws : va_W} {G : Nat → Nat → Int32} {P : Nat → Nat → Option Nat} {U : Nat → Nat → Int64} {V : Nat → Nat → Nat → Int32} {X : Nat → Nat → Nat → Int64} {O : Nat → Nat → Nat → Option Nat} {kd : Nat → Nat} {ln : Nat → Nat} {cnt : Nat} {H : Heap} {locs : List Loc} {ls : Array Slot} (this : Nat) (p0 : Int32) (p1 : Int32) (hk_this : kd this = 12) (r : Int32) (hr : f_X11_about G P U V X O kd ln cnt this p0 p1 = some r) (hx : p.tables.exec = Jvm.exec) (hb : c.code = cX11_about) (hml : c.maxLocals = 4) (hown : s.vm.findClass RX11 = some m.cls) (hts : ∀ w ∈ vmX11_about, w.before args s = true) (hA : ∀ q : Nat, s.heap.size ≤ q → A q) (hK : va_K (dC, dI) vwCl (cT kk) s) (hW : LW ws ad kk kd ln G P U V X O) (hT : TYP kd P O (V 0) cnt) (hP : va_P (dC, dI) vwCl ws H) (hD : va_D A ws) (hS : va_S A s.heap H locs) (hl : lv_has ls 4 [(0, .ref (ad this)), (1, .int p0), (2, .int p1)])
    (K : ∀ (pc : Nat) (ls : Array Slot) (rz : Int32) (ws : va_W) (H : Heap) (locs : List Loc), some rz = some r → decode cX11_about pc = .ok (.ireturn, 1) → LW ws ad kk kd ln G P U V X O → TYP kd P O (V 0) cnt → va_P (dC, dI) vwCl ws H → va_D A ws → va_S A s.heap H locs → W p l e ({ frames := 3, cells := 0, slots := 0, locals := 81 } : Room) s m args below meth c H locs 0 0 Q (F0 m pc ls [.int rz])) : W p l e ({ frames := 3, cells := 0, slots := 0, locals := 81 } : Room) s m args below meth c H locs 0 0 Q (F0 m 0 ls []) := by
  unfold f_X11_about at hr
  refine lv_aload_n hx hb dX11_about_0 rfl (lv_at hl 0 rfl) ?_
  refine lv_iload_n hx hb dX11_about_1 rfl (lv_at hl 1 rfl) ?_
  replace hr := b1S hr
  obtain ⟨r2z, hc2, hr⟩ := hr
  have hFc := fr_all hD hS hA
  obtain ⟨i1, hi1⟩ := hW.o11 hk_this
  refine va_calle (va_runV (As := [.int p0]) (rest := []) ⟨hx, hb, hml, hown, hts⟩ (m_X11_reformAt l dC dI kk ad H.size ws G P U V X O kd ln cnt this p0 hk_this hW hT r2z hc2) (cwV 1 hts gc_RX11_X11_reformAt_138 rfl rfl rfl (by decide +kernel) ⟨Nat.le_of_ble_eq_true rfl, Nat.le_of_ble_eq_true rfl⟩) ⟨fun a U g mk q => by obtain ⟨q0, q1, qP, qK, qD⟩ := q; exact ⟨q0, q1, qP, va_K.moved (u := U) (U := U.calling g mk a) (Vm.Alike.refl U.vm) qK, qD⟩, va_recv hK hP (ci := 11) (q0 := i1) rfl hi1, fun U hU hW => ⟨rfl, by rw [hU], by rw [hU]; exact hP, va_K.moved hW.alike hK, hD.weaken (fun _ _ _ _ => trivial)⟩⟩ rfl rfl hl.1 rfl (lv_room (Nat.le_of_ble_eq_true rfl)) dX11_about_2 ⟨Nat.le_of_ble_eq_true rfl, Nat.le_of_ble_eq_true rfl⟩) hS (fun q _ h => hFc q h) hFc (fun r2 w2 t H1 locs ht hvm hw hB hz1 hk1 hS => ?_)
  obtain ⟨hw0, hW, hT, hkr2⟩ := hw
  replace hw0 : r2 = r2z := hw0
  subst hw0
  obtain ⟨hP1, hK1, hD1⟩ := hB
  rw [ht] at hP1
  obtain ⟨hP, hD⟩ := jn_all (w1 := w2) hFc hP1 hD1
  replace hP : va_P (dC, dI) vwCl w2 H1 := hP
  replace hD : va_D A w2 := hD
  clear hFc hP1 hK1 hD1 hk1 hz1 ht hvm
  generalize H1 = H at hP hS ⊢
  refine lq_astore_n (lv' := [(3, va_re ad r2), (0, .ref (ad this)), (1, .int p0), (2, .int p1)]) hx hb dX11_about_5 rfl hl (by decide) rfl (fun ls hl => ?_)
  refine lq_aload_n hx hb dX11_about_6 rfl (lv_at hl 0 rfl) ?_
  refine lq_ifnonnull (tgt := 12) hx hb dX11_about_7 (by decide) (fun c7 => ?_) (fun b7 c7 => ?_)
  · subst c7
    replace hr := ocN hr
    replace hl : lv_has ls 4 [(3, .null), (0, .ref (ad this)), (1, .int p0), (2, .int p1)] := hl
    refine lv_iconst (v := (-1)) hx hb dX11_about_10 (by decide +kernel) ?_
    exact K 11 ls _ w2 H _ hr dX11_about_11 hW hT hP hD hS
  · subst c7
    replace hr := ocS hr
    replace hl : lv_has ls 4 [(3, .ref (ad b7)), (0, .ref (ad this)), (1, .int p0), (2, .int p1)] := hl
    have hk_b7 := hkr2 b7 rfl
    refine lv_iload_n hx hb dX11_about_12 rfl (lv_at hl 3 rfl) ?_
    have zk0 : (0 : Int32).toInt = 0 := by decide +kernel
    have zk1 : (1 : Int32).toInt = 1 := by decide +kernel
    have zk2 : (2 : Int32).toInt = 2 := by decide +kernel
    have zk3 : (3 : Int32).toInt = 3 := by decide +kernel
    have zk4 : (4 : Int32).toInt = 4 := by decide +kernel
    rcases Classical.em (p1 = 0) with c13_0 | c13_0
    · replace hr := iteT c13_0 hr
      refine lv_tableIn (off := 35) (tgt := 48) hx hb dX11_about_13 (by rw [c13_0]; decide +kernel) (by rw [c13_0]; decide +kernel) (by rw [c13_0]; decide +kernel) (by decide) ?_
      refine lv_aload_n hx hb dX11_about_48 rfl (lv_at hl 0 rfl) ?_
      obtain ⟨i3, hi3⟩ := hW.o5 hk_b7
      refine va_get (D := (dC, dI)) (ci := 5) (v := .int ((G 100) b7)) (C := RX5) (T := TX5) (N := 11) hx hb hts inX5 hown hK hP i3 hi3 rfl 0 (by decide) (hts (.fieldLink RX11 142 "SpellTurner$Reform" "day" "I") ic_59) (fun _ h9 => h9) rfl dX11_about_49 ?_
      exact K 52 ls _ w2 H _ hr dX11_about_52 hW hT hP hD hS
    · replace hr := iteF c13_0 hr
      rcases Classical.em (p1 = 1) with c13_1 | c13_1
      · replace hr := iteT c13_1 hr
        refine lv_tableIn (off := 40) (tgt := 53) hx hb dX11_about_13 (by rw [c13_1]; decide +kernel) (by rw [c13_1]; decide +kernel) (by rw [c13_1]; decide +kernel) (by decide) ?_
        refine lv_aload_n hx hb dX11_about_53 rfl (lv_at hl 0 rfl) ?_
        obtain ⟨i4, hi4⟩ := hW.o5 hk_b7
        refine va_get (D := (dC, dI)) (ci := 5) (v := .int ((G 102) b7)) (C := RX5) (T := TX5) (N := 11) hx hb hts inX5 hown hK hP i4 hi4 rfl 2 (by decide) (hts (.fieldLink RX11 145 "SpellTurner$Reform" "lawCount" "I") ic_65) (fun _ h9 => h9) rfl dX11_about_54 ?_
        exact K 57 ls _ w2 H _ hr dX11_about_57 hW hT hP hD hS
      · replace hr := iteF c13_1 hr
        rcases Classical.em (p1 = 2) with c13_2 | c13_2
        · replace hr := iteT c13_2 hr
          refine lv_tableIn (off := 45) (tgt := 58) hx hb dX11_about_13 (by rw [c13_2]; decide +kernel) (by rw [c13_2]; decide +kernel) (by rw [c13_2]; decide +kernel) (by decide) ?_
          refine lv_aload_n hx hb dX11_about_58 rfl (lv_at hl 0 rfl) ?_
          obtain ⟨i5, hi5⟩ := hW.o5 hk_b7
          replace hr := nnS hr
          obtain ⟨a59, hn59, hr⟩ := hr
          have hk_a59 : kd a59 = 11 := hT.1 103 _ _ hn59
          refine va_get (D := (dC, dI)) (ci := 5) (v := .ref (ad a59)) (C := RX5) (T := TX5) (N := 11) hx hb hts inX5 hown hK hP i5 hi5 rfl 3 (by decide) (hts (.fieldLink RX11 148 "SpellTurner$Reform" "parts" "LSpellTurner$WordRow;") ic_66) (fun _ h9 => h9) (congrArg (fun o => some (va_re ad o)) hn59) dX11_about_59 ?_
          obtain ⟨i6, hi6⟩ := hW.o10 hk_a59
          refine va_get (D := (dC, dI)) (ci := 10) (v := .int ((G 203) a59)) (C := RX10) (T := TX10) (N := 4) hx hb hts inX10 hown hK hP i6 hi6 rfl 3 (by decide) (hts (.fieldLink RX11 151 "SpellTurner$WordRow" "count" "I") ic_67) (fun _ h9 => h9) rfl dX11_about_62 ?_
          exact K 65 ls _ w2 H _ hr dX11_about_65 hW hT hP hD hS
        · replace hr := iteF c13_2 hr
          rcases Classical.em (p1 = 3) with c13_3 | c13_3
          · replace hr := iteT c13_3 hr
            refine lv_tableIn (off := 53) (tgt := 66) hx hb dX11_about_13 (by rw [c13_3]; decide +kernel) (by rw [c13_3]; decide +kernel) (by rw [c13_3]; decide +kernel) (by decide) ?_
            refine lv_aload_n hx hb dX11_about_66 rfl (lv_at hl 0 rfl) ?_
            obtain ⟨i7, hi7⟩ := hW.o5 hk_b7
            refine va_get (D := (dC, dI)) (ci := 5) (v := .int ((G 107) b7)) (C := RX5) (T := TX5) (N := 11) hx hb hts inX5 hown hK hP i7 hi7 rfl 7 (by decide) (hts (.fieldLink RX11 154 "SpellTurner$Reform" "keptCount" "I") ic_68) (fun _ h9 => h9) rfl dX11_about_67 ?_
            exact K 70 ls _ w2 H _ hr dX11_about_70 hW hT hP hD hS
          · replace hr := iteF c13_3 hr
            rcases Classical.em (p1 = 4) with c13_4 | c13_4
            · replace hr := iteT c13_4 hr
              refine lv_tableIn (off := 58) (tgt := 71) hx hb dX11_about_13 (by rw [c13_4]; decide +kernel) (by rw [c13_4]; decide +kernel) (by rw [c13_4]; decide +kernel) (by decide) ?_
              refine lv_aload_n hx hb dX11_about_71 rfl (lv_at hl 0 rfl) ?_
              obtain ⟨i8, hi8⟩ := hW.o5 hk_b7
              replace hr := nnS hr
              obtain ⟨a72, hn72, hr⟩ := hr
              have hk_a72 : kd a72 = 11 := hT.1 104 _ _ hn72
              refine va_get (D := (dC, dI)) (ci := 5) (v := .ref (ad a72)) (C := RX5) (T := TX5) (N := 11) hx hb hts inX5 hown hK hP i8 hi8 rfl 4 (by decide) (hts (.fieldLink RX11 157 "SpellTurner$Reform" "entries" "LSpellTurner$WordRow;") ic_69) (fun _ h9 => h9) (congrArg (fun o => some (va_re ad o)) hn72) dX11_about_72 ?_
              obtain ⟨i9, hi9⟩ := hW.o10 hk_a72
              refine va_get (D := (dC, dI)) (ci := 10) (v := .int ((G 203) a72)) (C := RX10) (T := TX10) (N := 4) hx hb hts inX10 hown hK hP i9 hi9 rfl 3 (by decide) (hts (.fieldLink RX11 151 "SpellTurner$WordRow" "count" "I") ic_67) (fun _ h9 => h9) rfl dX11_about_75 ?_
              refine lv_aload_n hx hb dX11_about_78 rfl (lv_at hl 0 rfl) ?_
              obtain ⟨i10, hi10⟩ := hW.o5 hk_b7
              refine va_get (D := (dC, dI)) (ci := 5) (v := .int ((G 107) b7)) (C := RX5) (T := TX5) (N := 11) hx hb hts inX5 hown hK hP i10 hi10 rfl 7 (by decide) (hts (.fieldLink RX11 154 "SpellTurner$Reform" "keptCount" "I") ic_68) (fun _ h9 => h9) rfl dX11_about_79 ?_
              refine lv_isub hx hb dX11_about_82 ?_
              exact K 83 ls _ w2 H _ hr dX11_about_83 hW hT hP hD hS
            · replace hr := iteF c13_4 hr
              have q13_0 := z_ne c13_0
              have q13_1 := z_ne c13_1
              have q13_2 := z_ne c13_2
              have q13_3 := z_ne c13_3
              have q13_4 := z_ne c13_4
              refine lv_tableOut (tgt := 84) hx hb dX11_about_13 (by omega) (by decide) ?_
              refine lv_iconst (v := (-1)) hx hb dX11_about_84 (by decide +kernel) ?_
              exact K 85 ls _ w2 H _ hr dX11_about_85 hW hT hP hD hS
set_option maxHeartbeats 4000000 in
set_option maxRecDepth 100000 in
theorem m_X11_about (l : Launch) (dC : Nat → ClassId) (dI : Nat → Nat → Nat) (kk : Nat → ClassId) (ad : Nat → Nat) (sz : Nat) (ws : va_W) (G : Nat → Nat → Int32) (P : Nat → Nat → Option Nat) (U : Nat → Nat → Int64) (V : Nat → Nat → Nat → Int32) (X : Nat → Nat → Nat → Int64) (O : Nat → Nat → Nat → Option Nat) (kd : Nat → Nat) (ln : Nat → Nat) (cnt : Nat) (this : Nat) (p0 : Int32) (p1 : Int32) (hk_this : kd this = 12) (hW : LW ws ad kk kd ln G P U V X O) (hT : TYP kd P O (V 0) cnt) (r : Int32) (hr : f_X11_about G P U V X O kd ln cnt this p0 p1 = some r) : Met l yX11_about vmX11_about ({ frames := 3, cells := 0, slots := 0, locals := 81 } : Room) (va_Pc [.ref (ad this), .int p0, .int p1] (fun U => U.heap.size = sz ∧ va_P (dC, dI) vwCl ws U.heap ∧ va_K (dC, dI) vwCl (cT kk) U ∧ va_D (fun _ => True) ws)) (va_Qi (fun (rz : Int32) (w : va_W) => rz = r ∧ LW w ad kk kd ln G P U V X O ∧ TYP kd P O (V 0) cnt) (fun w t => va_P (dC, dI) vwCl w t.heap ∧ va_K (dC, dI) vwCl (cT kk) t ∧ va_D (va_A ws sz) w) (va_A ws sz)) 0 0 (va_A ws sz) := by
  refine Met.ofW (cc := cX11_about) (maxL := 4) (ret := (some .int)) (by decide) rfl ?_
  intro p e s m args below meth c s₁ B hml hv
  obtain ⟨rfl, hsz, hP, hK, hD0⟩ := hv
  have hx := B.exec
  have hb := B.bytes
  have hrt := B.returns
  have hts := atoms_spec (ws := vmX11_about) B.pre
  have hown : s.vm.findClass RX11 = some m.cls := findClass_of_methodNamed B.named
  subst hsz
  have hD := hD0.self (sz := s.heap.size)
  generalize hAe : va_A ws s.heap.size = A at hD ⊢
  have hA : ∀ q : Nat, s.heap.size ≤ q → A q := fun q h => by rw [← hAe]; exact Or.inr h
  have hS : va_S A s.heap s.heap [] := va_S.rf
  have hl := lv_entry ([.ref (ad this), .int p0, .int p1]) (n := 4) (Nat.le_of_ble_eq_true rfl)
  rw [lg_entry_eq]
  generalize (lg_sl ([.ref (ad this), .int p0, .int p1]) ++ List.replicate (4 - (lg_sl ([.ref (ad this), .int p0, .int p1])).length) Slot.unset).toArray = ls at hl ⊢
  exact bm_X11_about this p0 p1 hk_this r hr hx hb hml hown hts hA hK hW hT hP hD hS hl (fun pc ls rz ws H locs he hd hW hT hP hD hS => by cases he; exact W.iret (v := r) hx hb hrt (fun t ht hW9 => ⟨⟨r, ws, rfl, ⟨rfl, hW, hT⟩, by rw [ht]; exact hP, va_K.moved hW9.alike hK, hD⟩, hS.F ht⟩) hS.2.2 hd)
set_option maxHeartbeats 4000000 in
set_option maxRecDepth 100000 in
theorem bm_X11_fault {p : Program} {l : Launch} {e : Env} {s : State} {m : MethodId} {args : Array Value} {below : List Frame} {meth : Method} {c : Code} {Q : State → Prop} {A : Nat → Prop} {dC : Nat → ClassId} {dI : Nat → Nat → Nat} {kk : Nat → ClassId} {ad : Nat → Nat} {ws : va_W} {G : Nat → Nat → Int32} {P : Nat → Nat → Option Nat} {U : Nat → Nat → Int64} {V : Nat → Nat → Nat → Int32} {X : Nat → Nat → Nat → Int64} {O : Nat → Nat → Nat → Option Nat} {kd : Nat → Nat} {ln : Nat → Nat} {cnt : Nat} {H : Heap} {locs : List Loc} {ls : Array Slot} (this : Nat) (p0 : Int32) (hk_this : kd this = 12) (r : Int32) (hr : f_X11_fault G P U V X O kd ln cnt this p0 = some r) (hx : p.tables.exec = Jvm.exec) (hb : c.code = cX11_fault) (hml : c.maxLocals = 2) (hown : s.vm.findClass RX11 = some m.cls) (hts : ∀ w ∈ vmX11_fault, w.before args s = true) (hA : ∀ q : Nat, s.heap.size ≤ q → A q) (hK : va_K (dC, dI) vwCl (cT kk) s) (hW : LW ws ad kk kd ln G P U V X O) (hT : TYP kd P O (V 0) cnt) (hP : va_P (dC, dI) vwCl ws H) (hD : va_D A ws) (hS : va_S A s.heap H locs) (hl : lv_has ls 2 [(0, .ref (ad this)), (1, .int p0)])
    (K : ∀ (pc : Nat) (ls : Array Slot) (rz : Int32) (ws : va_W) (H : Heap) (locs : List Loc), some rz = some r → decode cX11_fault pc = .ok (.ireturn, 1) → LW ws ad kk kd ln G P U V X O → TYP kd P O (V 0) cnt → va_P (dC, dI) vwCl ws H → va_D A ws → va_S A s.heap H locs → W p l e ({ frames := 2, cells := 0, slots := 0, locals := 60 } : Room) s m args below meth c H locs 0 0 Q (F0 m pc ls [.int rz])) : W p l e ({ frames := 2, cells := 0, slots := 0, locals := 60 } : Room) s m args below meth c H locs 0 0 Q (F0 m 0 ls []) := by
  unfold f_X11_fault at hr
  refine lv_iload_n hx hb dX11_fault_0 rfl (lv_at hl 1 rfl) ?_
  have zk0 : (0 : Int32).toInt = 0 := by decide +kernel
  have zk1 : (1 : Int32).toInt = 1 := by decide +kernel
  rcases Classical.em (p0 = 0) with c1_0 | c1_0
  · replace hr := iteT c1_0 hr
    refine lv_lookup (off := 27) (tgt := 28) hx hb dX11_fault_1 (by decide) (by rw [c1_0]; decide +kernel) (by decide) ?_
    refine lv_aload_n hx hb dX11_fault_28 rfl (lv_at hl 0 rfl) ?_
    obtain ⟨i1, hi1⟩ := hW.o11 hk_this
    replace hr := nnS hr
    obtain ⟨a29, hn29, hr⟩ := hr
    have hk_a29 : kd a29 = 5 := hT.1 225 _ _ hn29
    refine va_get (D := (dC, dI)) (ci := 11) (v := .ref (ad a29)) (C := RX11) (T := TX11) (N := 17) hx hb hts inX11 hown hK hP i1 hi1 rfl 5 (by decide) (hts (.fieldLink RX11 37 "SpellTurner" "reader" "LSpellTurner$Reader;") ic_71) (fun _ h9 => h9) (congrArg (fun o => some (va_re ad o)) hn29) dX11_fault_29 ?_
    obtain ⟨i2, hi2⟩ := hW.o4 hk_a29
    refine va_get (D := (dC, dI)) (ci := 4) (v := .int ((G 80) a29)) (C := RX4) (T := TX4) (N := 9) hx hb hts inX4 hown hK hP i2 hi2 rfl 0 (by decide) (hts (.fieldLink RX11 128 "SpellTurner$Reader" "faultKind" "I") ic_72) (fun _ h9 => h9) rfl dX11_fault_32 ?_
    exact K 35 ls _ ws H _ hr dX11_fault_35 hW hT hP hD hS
  · replace hr := iteF c1_0 hr
    rcases Classical.em (p0 = 1) with c1_1 | c1_1
    · replace hr := iteT c1_1 hr
      refine lv_lookup (off := 35) (tgt := 36) hx hb dX11_fault_1 (by decide) (by rw [c1_1]; decide +kernel) (by decide) ?_
      refine lv_aload_n hx hb dX11_fault_36 rfl (lv_at hl 0 rfl) ?_
      obtain ⟨i3, hi3⟩ := hW.o11 hk_this
      replace hr := nnS hr
      obtain ⟨a37, hn37, hr⟩ := hr
      have hk_a37 : kd a37 = 5 := hT.1 225 _ _ hn37
      refine va_get (D := (dC, dI)) (ci := 11) (v := .ref (ad a37)) (C := RX11) (T := TX11) (N := 17) hx hb hts inX11 hown hK hP i3 hi3 rfl 5 (by decide) (hts (.fieldLink RX11 37 "SpellTurner" "reader" "LSpellTurner$Reader;") ic_71) (fun _ h9 => h9) (congrArg (fun o => some (va_re ad o)) hn37) dX11_fault_37 ?_
      obtain ⟨i4, hi4⟩ := hW.o4 hk_a37
      refine va_get (D := (dC, dI)) (ci := 4) (v := .int ((G 81) a37)) (C := RX4) (T := TX4) (N := 9) hx hb hts inX4 hown hK hP i4 hi4 rfl 1 (by decide) (hts (.fieldLink RX11 135 "SpellTurner$Reader" "faultPlace" "I") ic_73) (fun _ h9 => h9) rfl dX11_fault_40 ?_
      exact K 43 ls _ ws H _ hr dX11_fault_43 hW hT hP hD hS
    · replace hr := iteF c1_1 hr
      refine lv_lookup (off := 43) (tgt := 44) hx hb dX11_fault_1 (by decide) (z_lk2 c1_0 c1_1) (by decide) ?_
      refine lv_iconst (v := (-1)) hx hb dX11_fault_44 (by decide +kernel) ?_
      exact K 45 ls _ ws H _ hr dX11_fault_45 hW hT hP hD hS
set_option maxHeartbeats 4000000 in
set_option maxRecDepth 100000 in
theorem m_X11_fault (l : Launch) (dC : Nat → ClassId) (dI : Nat → Nat → Nat) (kk : Nat → ClassId) (ad : Nat → Nat) (sz : Nat) (ws : va_W) (G : Nat → Nat → Int32) (P : Nat → Nat → Option Nat) (U : Nat → Nat → Int64) (V : Nat → Nat → Nat → Int32) (X : Nat → Nat → Nat → Int64) (O : Nat → Nat → Nat → Option Nat) (kd : Nat → Nat) (ln : Nat → Nat) (cnt : Nat) (this : Nat) (p0 : Int32) (hk_this : kd this = 12) (hW : LW ws ad kk kd ln G P U V X O) (hT : TYP kd P O (V 0) cnt) (r : Int32) (hr : f_X11_fault G P U V X O kd ln cnt this p0 = some r) : Met l yX11_fault vmX11_fault ({ frames := 2, cells := 0, slots := 0, locals := 60 } : Room) (va_Pc [.ref (ad this), .int p0] (fun U => U.heap.size = sz ∧ va_P (dC, dI) vwCl ws U.heap ∧ va_K (dC, dI) vwCl (cT kk) U ∧ va_D (fun _ => True) ws)) (va_Qi (fun (rz : Int32) (w : va_W) => rz = r ∧ LW w ad kk kd ln G P U V X O ∧ TYP kd P O (V 0) cnt) (fun w t => va_P (dC, dI) vwCl w t.heap ∧ va_K (dC, dI) vwCl (cT kk) t ∧ va_D (va_A ws sz) w) (va_A ws sz)) 0 0 (va_A ws sz) := by
  refine Met.ofW (cc := cX11_fault) (maxL := 2) (ret := (some .int)) (by decide) rfl ?_
  intro p e s m args below meth c s₁ B hml hv
  obtain ⟨rfl, hsz, hP, hK, hD0⟩ := hv
  have hx := B.exec
  have hb := B.bytes
  have hrt := B.returns
  have hts := atoms_spec (ws := vmX11_fault) B.pre
  have hown : s.vm.findClass RX11 = some m.cls := findClass_of_methodNamed B.named
  subst hsz
  have hD := hD0.self (sz := s.heap.size)
  generalize hAe : va_A ws s.heap.size = A at hD ⊢
  have hA : ∀ q : Nat, s.heap.size ≤ q → A q := fun q h => by rw [← hAe]; exact Or.inr h
  have hS : va_S A s.heap s.heap [] := va_S.rf
  have hl := lv_entry ([.ref (ad this), .int p0]) (n := 2) (Nat.le_of_ble_eq_true rfl)
  rw [lg_entry_eq]
  generalize (lg_sl ([.ref (ad this), .int p0]) ++ List.replicate (2 - (lg_sl ([.ref (ad this), .int p0])).length) Slot.unset).toArray = ls at hl ⊢
  exact bm_X11_fault this p0 hk_this r hr hx hb hml hown hts hA hK hW hT hP hD hS hl (fun pc ls rz ws H locs he hd hW hT hP hD hS => by cases he; exact W.iret (v := r) hx hb hrt (fun t ht hW9 => ⟨⟨r, ws, rfl, ⟨rfl, hW, hT⟩, by rw [ht]; exact hP, va_K.moved hW9.alike hK, hD⟩, hS.F ht⟩) hS.2.2 hd)
set_option maxHeartbeats 4000000 in
set_option maxRecDepth 100000 in
theorem bm_X0_formsAt {p : Program} {l : Launch} {e : Env} {s : State} {m : MethodId} {args : Array Value} {below : List Frame} {meth : Method} {c : Code} {Q : State → Prop} {A : Nat → Prop} {dC : Nat → ClassId} {dI : Nat → Nat → Nat} {kk : Nat → ClassId} {ad : Nat → Nat} {ws : va_W} {G : Nat → Nat → Int32} {P : Nat → Nat → Option Nat} {U : Nat → Nat → Int64} {V : Nat → Nat → Nat → Int32} {X : Nat → Nat → Nat → Int64} {O : Nat → Nat → Nat → Option Nat} {kd : Nat → Nat} {ln : Nat → Nat} {cnt : Nat} {H : Heap} {locs : List Loc} {ls : Array Slot} (this : Nat) (p0 : Int32) (p1 : Int32) (hk_this : kd this = 1) (r : Nat) (hr : f_X0_formsAt G P U V X O kd ln cnt this p0 p1 = some r) (hx : p.tables.exec = Jvm.exec) (hb : c.code = cX0_formsAt) (hml : c.maxLocals = 4) (hown : s.vm.findClass RX0 = some m.cls) (hts : ∀ w ∈ vmX0_formsAt, w.before args s = true) (hA : ∀ q : Nat, s.heap.size ≤ q → A q) (hK : va_K (dC, dI) vwCl (cT kk) s) (hW : LW ws ad kk kd ln G P U V X O) (hT : TYP kd P O (V 0) cnt) (hP : va_P (dC, dI) vwCl ws H) (hD : va_D A ws) (hS : va_S A s.heap H locs) (hl : lv_has ls 4 [(0, .ref (ad this)), (1, .int p0), (2, .int p1)])
    (K : ∀ (pc : Nat) (ls : Array Slot) (rz : Nat) (ws : va_W) (H : Heap) (locs : List Loc), some rz = some r → kd rz = 11 → decode cX0_formsAt pc = .ok (.areturn, 1) → LW ws ad kk kd ln G P U V X O → TYP kd P O (V 0) cnt → va_P (dC, dI) vwCl ws H → va_D A ws → va_S A s.heap H locs → W p l e ({ frames := 2, cells := 0, slots := 0, locals := 60 } : Room) s m args below meth c H locs 0 0 Q (F0 m pc ls [.ref (ad rz)])) : W p l e ({ frames := 2, cells := 0, slots := 0, locals := 60 } : Room) s m args below meth c H locs 0 0 Q (F0 m 0 ls []) := by
  unfold f_X0_formsAt at hr
  refine lv_aload_n hx hb dX0_formsAt_0 rfl (lv_at hl 0 rfl) ?_
  obtain ⟨i1, hi1⟩ := hW.o0 hk_this
  replace hr := nnS hr
  obtain ⟨a1, hn1, hr⟩ := hr
  have hk_a1 : kd a1 = 301 := hT.1 1 _ _ hn1
  refine va_get (D := (dC, dI)) (ci := 0) (v := .ref (ad a1)) (C := RX0) (T := TX0) (N := 6) hx hb hts inX0 hown hK hP i1 hi1 rfl 1 (by decide) (hts (.fieldLink RX0 20 "SpellTurner$Book" "forms" "[LSpellTurner$WordRow;") ic_75) (fun _ h9 => h9) (congrArg (fun o => some (va_re ad o)) hn1) dX0_formsAt_1 ?_
  refine lv_iload_n hx hb dX0_formsAt_4 rfl (lv_at hl 1 rfl) ?_
  refine lv_bipush (v := 100) hx hb dX0_formsAt_5 (by decide +kernel) ?_
  refine lv_imul hx hb dX0_formsAt_7 ?_
  refine lv_iload_n hx hb dX0_formsAt_8 rfl (lv_at hl 2 rfl) ?_
  refine lv_iadd hx hb dX0_formsAt_9 ?_
  obtain ⟨i2, hi2⟩ := hW.q1 hk_a1
  replace hr := iteS hr
  obtain ⟨hi10, hr⟩ := hr
  refine va_aldq (C := RX10) (f := fun i => ((O 1) a1 i).map ad) hx hb hK hP i2 5 hi2 rfl (inbV hi10) dX0_formsAt_10 ?_
  refine lv_tope (ad := ad) (o := ((O 1) a1 (Int32.toNatClampNeg ((p0 * 100) + p1)))) (fun o10 eo10 => ?_)
  have hk_o10 : ∀ b, o10 = some b → kd b = 11 := fun b hq => hT.2.1 1 _ _ b (eo10.symm.trans hq)
  replace hr := vlS hr o10 eo10
  clear eo10
  refine lq_astore_n (lv' := [(3, va_re ad o10), (0, .ref (ad this)), (1, .int p0), (2, .int p1)]) hx hb dX0_formsAt_11 rfl hl (by decide) rfl (fun ls hl => ?_)
  refine lq_aload_n hx hb dX0_formsAt_12 rfl (lv_at hl 0 rfl) ?_
  replace hr := jnS hr
  obtain ⟨j24, hj24, hr⟩ := hr
  have Jj24 : ∀ (t24_0 : Nat) (ws : va_W) (H : Heap) (locs : List Loc) (ls : Array Slot), j24 t24_0 = some r → LW ws ad kk kd ln G P U V X O → TYP kd P O (V 0) cnt → va_P (dC, dI) vwCl ws H → va_D A ws → va_S A s.heap H locs → lv_has ls 4 [] → kd t24_0 = 11 → W p l e ({ frames := 2, cells := 0, slots := 0, locals := 60 } : Room) s m args below meth c H locs 0 0 Q (F0 m 24 ls [.ref (ad t24_0)]) := by
    intro t24_0 ws H locs ls hr hW hT hP hD hS hl hk_t24_0
    rw [hj24] at hr
    exact K 24 ls _ ws H _ hr hk_t24_0 dX0_formsAt_24 hW hT hP hD hS
  refine lq_ifnonnull (tgt := 23) hx hb dX0_formsAt_13 (by decide) (fun c13 => ?_) (fun b13 c13 => ?_)
  · subst c13
    replace hr := ocN hr
    replace hl : lv_has ls 4 [(3, .null), (0, .ref (ad this)), (1, .int p0), (2, .int p1)] := hl
    refine lv_aload_n hx hb dX0_formsAt_16 rfl (lv_at hl 1 rfl) ?_
    obtain ⟨i3, hi3⟩ := hW.o0 hk_this
    replace hr := nnS hr
    obtain ⟨a17, hn17, hr⟩ := hr
    have hk_a17 : kd a17 = 11 := hT.1 5 _ _ hn17
    refine va_get (D := (dC, dI)) (ci := 0) (v := .ref (ad a17)) (C := RX0) (T := TX0) (N := 6) hx hb hts inX0 hown hK hP i3 hi3 rfl 5 (by decide) (hts (.fieldLink RX0 35 "SpellTurner$Book" "nothing" "LSpellTurner$WordRow;") ic_76) (fun _ h9 => h9) (congrArg (fun o => some (va_re ad o)) hn17) dX0_formsAt_17 ?_
    refine lv_goto (tgt := 24) hx hb dX0_formsAt_20 (by decide) ?_
    exact Jj24 a17 ws H _ ls hr hW hT hP hD hS (lv_sub hl [] rfl) hk_a17
  · subst c13
    replace hr := ocS hr
    replace hl : lv_has ls 4 [(3, .ref (ad b13)), (0, .ref (ad this)), (1, .int p0), (2, .int p1)] := hl
    have hk_b13 := hk_o10 b13 rfl
    refine lv_aload_n hx hb dX0_formsAt_23 rfl (lv_at hl 0 rfl) ?_
    exact Jj24 b13 ws H _ ls hr hW hT hP hD hS (lv_sub hl [] rfl) hk_b13
set_option maxHeartbeats 4000000 in
set_option maxRecDepth 100000 in
theorem m_X0_formsAt (l : Launch) (dC : Nat → ClassId) (dI : Nat → Nat → Nat) (kk : Nat → ClassId) (ad : Nat → Nat) (sz : Nat) (ws : va_W) (G : Nat → Nat → Int32) (P : Nat → Nat → Option Nat) (U : Nat → Nat → Int64) (V : Nat → Nat → Nat → Int32) (X : Nat → Nat → Nat → Int64) (O : Nat → Nat → Nat → Option Nat) (kd : Nat → Nat) (ln : Nat → Nat) (cnt : Nat) (this : Nat) (p0 : Int32) (p1 : Int32) (hk_this : kd this = 1) (hW : LW ws ad kk kd ln G P U V X O) (hT : TYP kd P O (V 0) cnt) (r : Nat) (hr : f_X0_formsAt G P U V X O kd ln cnt this p0 p1 = some r) : Met l yX0_formsAt vmX0_formsAt ({ frames := 2, cells := 0, slots := 0, locals := 60 } : Room) (va_Pc [.ref (ad this), .int p0, .int p1] (fun U => U.heap.size = sz ∧ va_P (dC, dI) vwCl ws U.heap ∧ va_K (dC, dI) vwCl (cT kk) U ∧ va_D (fun _ => True) ws)) (va_Qe ad (fun (rz : Option Nat) (w : va_W) => rz = some r ∧ LW w ad kk kd ln G P U V X O ∧ TYP kd P O (V 0) cnt ∧ kd r = 11) (fun w t => va_P (dC, dI) vwCl w t.heap ∧ va_K (dC, dI) vwCl (cT kk) t ∧ va_D (va_A ws sz) w) (va_A ws sz)) 0 0 (va_A ws sz) := by
  refine Met.ofW (cc := cX0_formsAt) (maxL := 4) (ret := (some (.object "SpellTurner$WordRow"))) (by decide) rfl ?_
  intro p e s m args below meth c s₁ B hml hv
  obtain ⟨rfl, hsz, hP, hK, hD0⟩ := hv
  have hx := B.exec
  have hb := B.bytes
  have hrt := B.returns
  have hts := atoms_spec (ws := vmX0_formsAt) B.pre
  have hown : s.vm.findClass RX0 = some m.cls := findClass_of_methodNamed B.named
  subst hsz
  have hD := hD0.self (sz := s.heap.size)
  generalize hAe : va_A ws s.heap.size = A at hD ⊢
  have hA : ∀ q : Nat, s.heap.size ≤ q → A q := fun q h => by rw [← hAe]; exact Or.inr h
  have hS : va_S A s.heap s.heap [] := va_S.rf
  have hl := lv_entry ([.ref (ad this), .int p0, .int p1]) (n := 4) (Nat.le_of_ble_eq_true rfl)
  rw [lg_entry_eq]
  generalize (lg_sl ([.ref (ad this), .int p0, .int p1]) ++ List.replicate (4 - (lg_sl ([.ref (ad this), .int p0, .int p1])).length) Slot.unset).toArray = ls at hl ⊢
  exact bm_X0_formsAt this p0 p1 hk_this r hr hx hb hml hown hts hA hK hW hT hP hD hS hl (fun pc ls rz ws H locs he hkq hd hW hT hP hD hS => by cases he; exact W.aret (v := .ref (ad r)) hx hb hrt (Or.inl ⟨_, rfl⟩) (Or.inr ⟨_, rfl⟩) (fun t ht hW9 => ⟨⟨some r, ws, rfl, ⟨rfl, hW, hT, hkq⟩, by rw [ht]; exact hP, va_K.moved hW9.alike hK, hD⟩, hS.F ht⟩) hS.2.2 hd)
