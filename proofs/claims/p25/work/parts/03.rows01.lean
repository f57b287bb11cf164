theorem gd_X6_finish_63 : decode cX6_finish 63 = .ok (.iconst 1, 1) ∧ decode cX6_finish 64 = .ok (.putfield 25, 3) ∧ decode cX6_finish 67 = .ok (.aload_n 0, 1) ∧ decode cX6_finish 68 = .ok (.aload_n 0, 1) ∧ decode cX6_finish 69 = .ok (.getfield 33, 3) ∧ decode cX6_finish 72 = .ok (.putfield 29, 3) ∧ decode cX6_finish 75 = .ok (.aload_n 0, 1) ∧ decode cX6_finish 76 = .ok (.getfield 33, 3) ∧ decode cX6_finish 79 = .ok (.ireturn, 1) ∧ decode cX6_byteAt 0 = .ok (.iload_n 1, 1) := by decide +kernel
theorem dX6_finish_63 : decode cX6_finish 63 = .ok (.iconst 1, 1) := gd_X6_finish_63.1
theorem dX6_finish_64 : decode cX6_finish 64 = .ok (.putfield 25, 3) := gd_X6_finish_63.2.1
theorem dX6_finish_67 : decode cX6_finish 67 = .ok (.aload_n 0, 1) := gd_X6_finish_63.2.2.1
theorem dX6_finish_68 : decode cX6_finish 68 = .ok (.aload_n 0, 1) := gd_X6_finish_63.2.2.2.1
theorem dX6_finish_69 : decode cX6_finish 69 = .ok (.getfield 33, 3) := gd_X6_finish_63.2.2.2.2.1
theorem dX6_finish_72 : decode cX6_finish 72 = .ok (.putfield 29, 3) := gd_X6_finish_63.2.2.2.2.2.1
theorem dX6_finish_75 : decode cX6_finish 75 = .ok (.aload_n 0, 1) := gd_X6_finish_63.2.2.2.2.2.2.1
theorem dX6_finish_76 : decode cX6_finish 76 = .ok (.getfield 33, 3) := gd_X6_finish_63.2.2.2.2.2.2.2.1
theorem dX6_finish_79 : decode cX6_finish 79 = .ok (.ireturn, 1) := gd_X6_finish_63.2.2.2.2.2.2.2.2.1
theorem dX6_byteAt_0 : decode cX6_byteAt 0 = .ok (.iload_n 1, 1) := gd_X6_finish_63.2.2.2.2.2.2.2.2.2
theorem gd_X6_byteAt_1 : decode cX6_byteAt 1 = .ok (.ifCond .lt 11, 3) ∧ decode cX6_byteAt 4 = .ok (.iload_n 1, 1) ∧ decode cX6_byteAt 5 = .ok (.aload_n 0, 1) ∧ decode cX6_byteAt 6 = .ok (.getfield 29, 3) ∧ decode cX6_byteAt 9 = .ok (.if_icmp .lt 7, 3) ∧ decode cX6_byteAt 12 = .ok (.iconst (-1), 1) ∧ decode cX6_byteAt 13 = .ok (.goto 13, 3) ∧ decode cX6_byteAt 26 = .ok (.ireturn, 1) ∧ decode cX6_tallyOf 0 = .ok (.aload_n 0, 1) ∧ decode cX6_tallyOf 1 = .ok (.getfield 25, 3) := by decide +kernel
theorem dX6_byteAt_1 : decode cX6_byteAt 1 = .ok (.ifCond .lt 11, 3) := gd_X6_byteAt_1.1
theorem dX6_byteAt_4 : decode cX6_byteAt 4 = .ok (.iload_n 1, 1) := gd_X6_byteAt_1.2.1
theorem dX6_byteAt_5 : decode cX6_byteAt 5 = .ok (.aload_n 0, 1) := gd_X6_byteAt_1.2.2.1
theorem dX6_byteAt_6 : decode cX6_byteAt 6 = .ok (.getfield 29, 3) := gd_X6_byteAt_1.2.2.2.1
theorem dX6_byteAt_9 : decode cX6_byteAt 9 = .ok (.if_icmp .lt 7, 3) := gd_X6_byteAt_1.2.2.2.2.1
theorem dX6_byteAt_12 : decode cX6_byteAt 12 = .ok (.iconst (-1), 1) := gd_X6_byteAt_1.2.2.2.2.2.1
theorem dX6_byteAt_13 : decode cX6_byteAt 13 = .ok (.goto 13, 3) := gd_X6_byteAt_1.2.2.2.2.2.2.1
theorem dX6_byteAt_26 : decode cX6_byteAt 26 = .ok (.ireturn, 1) := gd_X6_byteAt_1.2.2.2.2.2.2.2.1
theorem dX6_tallyOf_0 : decode cX6_tallyOf 0 = .ok (.aload_n 0, 1) := gd_X6_byteAt_1.2.2.2.2.2.2.2.2.1
theorem dX6_tallyOf_1 : decode cX6_tallyOf 1 = .ok (.getfield 25, 3) := gd_X6_byteAt_1.2.2.2.2.2.2.2.2.2
theorem gd_X6_tallyOf_4 : decode cX6_tallyOf 4 = .ok (.ifCond .eq 12, 3) ∧ decode cX6_tallyOf 16 = .ok (.iconst (-1), 1) ∧ decode cX6_tallyOf 17 = .ok (.goto 9, 3) ∧ decode cX6_tallyOf 26 = .ok (.ireturn, 1) ∧ decode cX6_append 0 = .ok (.aload_n 0, 1) ∧ decode cX6_append 1 = .ok (.getfield 39, 3) ∧ decode cX6_append 4 = .ok (.ifCond .eq 15, 3) ∧ decode cX6_append 7 = .ok (.iload_n 3, 1) ∧ decode cX6_append 8 = .ok (.sipush 2500, 3) ∧ decode cX6_append 11 = .ok (.aload_n 0, 1) := by decide +kernel
theorem dX6_tallyOf_4 : decode cX6_tallyOf 4 = .ok (.ifCond .eq 12, 3) := gd_X6_tallyOf_4.1
theorem dX6_tallyOf_16 : decode cX6_tallyOf 16 = .ok (.iconst (-1), 1) := gd_X6_tallyOf_4.2.1
theorem dX6_tallyOf_17 : decode cX6_tallyOf 17 = .ok (.goto 9, 3) := gd_X6_tallyOf_4.2.2.1
theorem dX6_tallyOf_26 : decode cX6_tallyOf 26 = .ok (.ireturn, 1) := gd_X6_tallyOf_4.2.2.2.1
theorem dX6_append_0 : decode cX6_append 0 = .ok (.aload_n 0, 1) := gd_X6_tallyOf_4.2.2.2.2.1
theorem dX6_append_1 : decode cX6_append 1 = .ok (.getfield 39, 3) := gd_X6_tallyOf_4.2.2.2.2.2.1
theorem dX6_append_4 : decode cX6_append 4 = .ok (.ifCond .eq 15, 3) := gd_X6_tallyOf_4.2.2.2.2.2.2.1
theorem dX6_append_7 : decode cX6_append 7 = .ok (.iload_n 3, 1) := gd_X6_tallyOf_4.2.2.2.2.2.2.2.1
theorem dX6_append_8 : decode cX6_append 8 = .ok (.sipush 2500, 3) := gd_X6_tallyOf_4.2.2.2.2.2.2.2.2.1
theorem dX6_append_11 : decode cX6_append 11 = .ok (.aload_n 0, 1) := gd_X6_tallyOf_4.2.2.2.2.2.2.2.2.2
theorem gd_X6_append_12 : decode cX6_append 12 = .ok (.getfield 33, 3) ∧ decode cX6_append 15 = .ok (.isub, 1) ∧ decode cX6_append 16 = .ok (.if_icmp .le 9, 3) ∧ decode cX6_append 25 = .ok (.aload_n 1, 1) ∧ decode cX6_append 26 = .ok (.iload_n 2, 1) ∧ decode cX6_append 27 = .ok (.aload_n 0, 1) ∧ decode cX6_append 28 = .ok (.getfield 15, 3) ∧ decode cX6_append 31 = .ok (.aload_n 0, 1) ∧ decode cX6_append 32 = .ok (.getfield 33, 3) ∧ decode cX6_append 35 = .ok (.iload_n 3, 1) := by decide +kernel
theorem dX6_append_12 : decode cX6_append 12 = .ok (.getfield 33, 3) := gd_X6_append_12.1
theorem dX6_append_15 : decode cX6_append 15 = .ok (.isub, 1) := gd_X6_append_12.2.1
theorem dX6_append_16 : decode cX6_append 16 = .ok (.if_icmp .le 9, 3) := gd_X6_append_12.2.2.1
theorem dX6_append_25 : decode cX6_append 25 = .ok (.aload_n 1, 1) := gd_X6_append_12.2.2.2.1
theorem dX6_append_26 : decode cX6_append 26 = .ok (.iload_n 2, 1) := gd_X6_append_12.2.2.2.2.1
theorem dX6_append_27 : decode cX6_append 27 = .ok (.aload_n 0, 1) := gd_X6_append_12.2.2.2.2.2.1
theorem dX6_append_28 : decode cX6_append 28 = .ok (.getfield 15, 3) := gd_X6_append_12.2.2.2.2.2.2.1
theorem dX6_append_31 : decode cX6_append 31 = .ok (.aload_n 0, 1) := gd_X6_append_12.2.2.2.2.2.2.2.1
theorem dX6_append_32 : decode cX6_append 32 = .ok (.getfield 33, 3) := gd_X6_append_12.2.2.2.2.2.2.2.2.1
theorem dX6_append_35 : decode cX6_append 35 = .ok (.iload_n 3, 1) := gd_X6_append_12.2.2.2.2.2.2.2.2.2
theorem gd_X6_append_36 : decode cX6_append 36 = .ok (.invokestatic 81, 3) ∧ decode cX6_append 39 = .ok (.aload_n 0, 1) ∧ decode cX6_append 40 = .ok (.dup, 1) ∧ decode cX6_append 41 = .ok (.getfield 33, 3) ∧ decode cX6_append 44 = .ok (.iload_n 3, 1) ∧ decode cX6_append 45 = .ok (.iadd, 1) ∧ decode cX6_append 46 = .ok (.putfield 33, 3) ∧ decode cX6_append 49 = .ok (.return_, 1) ∧ decode cX7_init 0 = .ok (.aload_n 0, 1) ∧ decode cX7_init 1 = .ok (.invokespecial 3, 3) := by decide +kernel
theorem dX6_append_36 : decode cX6_append 36 = .ok (.invokestatic 81, 3) := gd_X6_append_36.1
theorem dX6_append_39 : decode cX6_append 39 = .ok (.aload_n 0, 1) := gd_X6_append_36.2.1
theorem dX6_append_40 : decode cX6_append 40 = .ok (.dup, 1) := gd_X6_append_36.2.2.1
theorem dX6_append_41 : decode cX6_append 41 = .ok (.getfield 33, 3) := gd_X6_append_36.2.2.2.1
theorem dX6_append_44 : decode cX6_append 44 = .ok (.iload_n 3, 1) := gd_X6_append_36.2.2.2.2.1
theorem dX6_append_45 : decode cX6_append 45 = .ok (.iadd, 1) := gd_X6_append_36.2.2.2.2.2.1
theorem dX6_append_46 : decode cX6_append 46 = .ok (.putfield 33, 3) := gd_X6_append_36.2.2.2.2.2.2.1
theorem dX6_append_49 : decode cX6_append 49 = .ok (.return_, 1) := gd_X6_append_36.2.2.2.2.2.2.2.1
theorem dX7_init_0 : decode cX7_init 0 = .ok (.aload_n 0, 1) := gd_X6_append_36.2.2.2.2.2.2.2.2.1
theorem dX7_init_1 : decode cX7_init 1 = .ok (.invokespecial 3, 3) := gd_X6_append_36.2.2.2.2.2.2.2.2.2
theorem gd_X7_init_4 : decode cX7_init 4 = .ok (.aload_n 0, 1) ∧ decode cX7_init 5 = .ok (.sipush 2000, 3) ∧ decode cX7_init 8 = .ok (.newarray .byte, 2) ∧ decode cX7_init 10 = .ok (.putfield 9, 3) ∧ decode cX7_init 13 = .ok (.aload_n 0, 1) ∧ decode cX7_init 14 = .ok (.iconst 0, 1) ∧ decode cX7_init 15 = .ok (.putfield 15, 3) ∧ decode cX7_init 18 = .ok (.return_, 1) ∧ decode cX7_append 0 = .ok (.bipush 24, 2) ∧ decode cX7_append 2 = .ok (.istore_n 2, 1) := by decide +kernel
theorem dX7_init_4 : decode cX7_init 4 = .ok (.aload_n 0, 1) := gd_X7_init_4.1
theorem dX7_init_5 : decode cX7_init 5 = .ok (.sipush 2000, 3) := gd_X7_init_4.2.1
theorem dX7_init_8 : decode cX7_init 8 = .ok (.newarray .byte, 2) := gd_X7_init_4.2.2.1
theorem dX7_init_10 : decode cX7_init 10 = .ok (.putfield 9, 3) := gd_X7_init_4.2.2.2.1
theorem dX7_init_13 : decode cX7_init 13 = .ok (.aload_n 0, 1) := gd_X7_init_4.2.2.2.2.1
theorem dX7_init_14 : decode cX7_init 14 = .ok (.iconst 0, 1) := gd_X7_init_4.2.2.2.2.2.1
theorem dX7_init_15 : decode cX7_init 15 = .ok (.putfield 15, 3) := gd_X7_init_4.2.2.2.2.2.2.1
theorem dX7_init_18 : decode cX7_init 18 = .ok (.return_, 1) := gd_X7_init_4.2.2.2.2.2.2.2.1
theorem dX7_append_0 : decode cX7_append 0 = .ok (.bipush 24, 2) := gd_X7_init_4.2.2.2.2.2.2.2.2.1
theorem dX7_append_2 : decode cX7_append 2 = .ok (.istore_n 2, 1) := gd_X7_init_4.2.2.2.2.2.2.2.2.2
theorem gd_X7_append_3 : decode cX7_append 3 = .ok (.iload_n 2, 1) ∧ decode cX7_append 4 = .ok (.ifCond .lt 42, 3) ∧ decode cX7_append 7 = .ok (.aload_n 0, 1) ∧ decode cX7_append 8 = .ok (.getfield 15, 3) ∧ decode cX7_append 11 = .ok (.sipush 2000, 3) ∧ decode cX7_append 14 = .ok (.if_icmp .ge 32, 3) ∧ decode cX7_append 17 = .ok (.aload_n 0, 1) ∧ decode cX7_append 18 = .ok (.getfield 9, 3) ∧ decode cX7_append 21 = .ok (.aload_n 0, 1) ∧ decode cX7_append 22 = .ok (.getfield 15, 3) := by decide +kernel
theorem dX7_append_3 : decode cX7_append 3 = .ok (.iload_n 2, 1) := gd_X7_append_3.1
theorem dX7_append_4 : decode cX7_append 4 = .ok (.ifCond .lt 42, 3) := gd_X7_append_3.2.1
theorem dX7_append_7 : decode cX7_append 7 = .ok (.aload_n 0, 1) := gd_X7_append_3.2.2.1
theorem dX7_append_8 : decode cX7_append 8 = .ok (.getfield 15, 3) := gd_X7_append_3.2.2.2.1
theorem dX7_append_11 : decode cX7_append 11 = .ok (.sipush 2000, 3) := gd_X7_append_3.2.2.2.2.1
theorem dX7_append_14 : decode cX7_append 14 = .ok (.if_icmp .ge 32, 3) := gd_X7_append_3.2.2.2.2.2.1
theorem dX7_append_17 : decode cX7_append 17 = .ok (.aload_n 0, 1) := gd_X7_append_3.2.2.2.2.2.2.1
theorem dX7_append_18 : decode cX7_append 18 = .ok (.getfield 9, 3) := gd_X7_append_3.2.2.2.2.2.2.2.1
theorem dX7_append_21 : decode cX7_append 21 = .ok (.aload_n 0, 1) := gd_X7_append_3.2.2.2.2.2.2.2.2.1
theorem dX7_append_22 : decode cX7_append 22 = .ok (.getfield 15, 3) := gd_X7_append_3.2.2.2.2.2.2.2.2.2
theorem gd_X7_append_25 : decode cX7_append 25 = .ok (.iload_n 1, 1) ∧ decode cX7_append 26 = .ok (.iload_n 2, 1) ∧ decode cX7_append 27 = .ok (.ishr, 1) ∧ decode cX7_append 28 = .ok (.i2b, 1) ∧ decode cX7_append 29 = .ok (.bastore, 1) ∧ decode cX7_append 30 = .ok (.aload_n 0, 1) ∧ decode cX7_append 31 = .ok (.dup, 1) ∧ decode cX7_append 32 = .ok (.getfield 15, 3) ∧ decode cX7_append 35 = .ok (.iconst 1, 1) ∧ decode cX7_append 36 = .ok (.iadd, 1) := by decide +kernel
theorem dX7_append_25 : decode cX7_append 25 = .ok (.iload_n 1, 1) := gd_X7_append_25.1
theorem dX7_append_26 : decode cX7_append 26 = .ok (.iload_n 2, 1) := gd_X7_append_25.2.1
theorem dX7_append_27 : decode cX7_append 27 = .ok (.ishr, 1) := gd_X7_append_25.2.2.1
theorem dX7_append_28 : decode cX7_append 28 = .ok (.i2b, 1) := gd_X7_append_25.2.2.2.1
theorem dX7_append_29 : decode cX7_append 29 = .ok (.bastore, 1) := gd_X7_append_25.2.2.2.2.1
theorem dX7_append_30 : decode cX7_append 30 = .ok (.aload_n 0, 1) := gd_X7_append_25.2.2.2.2.2.1
theorem dX7_append_31 : decode cX7_append 31 = .ok (.dup, 1) := gd_X7_append_25.2.2.2.2.2.2.1
theorem dX7_append_32 : decode cX7_append 32 = .ok (.getfield 15, 3) := gd_X7_append_25.2.2.2.2.2.2.2.1
theorem dX7_append_35 : decode cX7_append 35 = .ok (.iconst 1, 1) := gd_X7_append_25.2.2.2.2.2.2.2.2.1
theorem dX7_append_36 : decode cX7_append 36 = .ok (.iadd, 1) := gd_X7_append_25.2.2.2.2.2.2.2.2.2
theorem gd_X7_append_37 : decode cX7_append 37 = .ok (.putfield 15, 3) ∧ decode cX7_append 40 = .ok (.iinc 2 (-8), 3) ∧ decode cX7_append 43 = .ok (.goto (-40), 3) ∧ decode cX7_append 46 = .ok (.return_, 1) ∧ decode cX7_take 0 = .ok (.aload_n 0, 1) ∧ decode cX7_take 1 = .ok (.getfield 15, 3) ∧ decode cX7_take 4 = .ok (.istore_n 1, 1) ∧ decode cX7_take 5 = .ok (.aload_n 0, 1) ∧ decode cX7_take 6 = .ok (.iconst 0, 1) ∧ decode cX7_take 7 = .ok (.putfield 15, 3) := by decide +kernel
theorem dX7_append_37 : decode cX7_append 37 = .ok (.putfield 15, 3) := gd_X7_append_37.1
theorem dX7_append_40 : decode cX7_append 40 = .ok (.iinc 2 (-8), 3) := gd_X7_append_37.2.1
theorem dX7_append_43 : decode cX7_append 43 = .ok (.goto (-40), 3) := gd_X7_append_37.2.2.1
theorem dX7_append_46 : decode cX7_append 46 = .ok (.return_, 1) := gd_X7_append_37.2.2.2.1
theorem dX7_take_0 : decode cX7_take 0 = .ok (.aload_n 0, 1) := gd_X7_append_37.2.2.2.2.1
theorem dX7_take_1 : decode cX7_take 1 = .ok (.getfield 15, 3) := gd_X7_append_37.2.2.2.2.2.1
theorem dX7_take_4 : decode cX7_take 4 = .ok (.istore_n 1, 1) := gd_X7_append_37.2.2.2.2.2.2.1
theorem dX7_take_5 : decode cX7_take 5 = .ok (.aload_n 0, 1) := gd_X7_append_37.2.2.2.2.2.2.2.1
theorem dX7_take_6 : decode cX7_take 6 = .ok (.iconst 0, 1) := gd_X7_append_37.2.2.2.2.2.2.2.2.1
theorem dX7_take_7 : decode cX7_take 7 = .ok (.putfield 15, 3) := gd_X7_append_37.2.2.2.2.2.2.2.2.2
theorem gd_X7_take_10 : decode cX7_take 10 = .ok (.iload_n 1, 1) ∧ decode cX7_take 11 = .ok (.ireturn, 1) ∧ decode cX7_isWord 0 = .ok (.iload_n 1, 1) ∧ decode cX7_isWord 1 = .ok (.iconst 1, 1) ∧ decode cX7_isWord 2 = .ok (.if_icmp .lt 9, 3) ∧ decode cX7_isWord 11 = .ok (.iconst 0, 1) ∧ decode cX7_isWord 12 = .ok (.ireturn, 1) ∧ decode cX7_hasZero 0 = .ok (.aload_n 0, 1) ∧ decode cX7_hasZero 1 = .ok (.iconst 0, 1) ∧ decode cX7_hasZero 2 = .ok (.iload_n 1, 1) := by decide +kernel
theorem dX7_take_10 : decode cX7_take 10 = .ok (.iload_n 1, 1) := gd_X7_take_10.1
theorem dX7_take_11 : decode cX7_take 11 = .ok (.ireturn, 1) := gd_X7_take_10.2.1
theorem dX7_isWord_0 : decode cX7_isWord 0 = .ok (.iload_n 1, 1) := gd_X7_take_10.2.2.1
theorem dX7_isWord_1 : decode cX7_isWord 1 = .ok (.iconst 1, 1) := gd_X7_take_10.2.2.2.1
theorem dX7_isWord_2 : decode cX7_isWord 2 = .ok (.if_icmp .lt 9, 3) := gd_X7_take_10.2.2.2.2.1
theorem dX7_isWord_11 : decode cX7_isWord 11 = .ok (.iconst 0, 1) := gd_X7_take_10.2.2.2.2.2.1
theorem dX7_isWord_12 : decode cX7_isWord 12 = .ok (.ireturn, 1) := gd_X7_take_10.2.2.2.2.2.2.1
theorem dX7_hasZero_0 : decode cX7_hasZero 0 = .ok (.aload_n 0, 1) := gd_X7_take_10.2.2.2.2.2.2.2.1
theorem dX7_hasZero_1 : decode cX7_hasZero 1 = .ok (.iconst 0, 1) := gd_X7_take_10.2.2.2.2.2.2.2.2.1
theorem dX7_hasZero_2 : decode cX7_hasZero 2 = .ok (.iload_n 1, 1) := gd_X7_take_10.2.2.2.2.2.2.2.2.2
theorem gd_X7_hasZero_3 : decode cX7_hasZero 3 = .ok (.invokevirtual 25, 3) ∧ decode cX7_hasZero 6 = .ok (.ifCond .le 7, 3) ∧ decode cX7_hasZero 13 = .ok (.iconst 0, 1) ∧ decode cX7_hasZero 14 = .ok (.ireturn, 1) ∧ decode cX7_lines 0 = .ok (.iconst 1, 1) ∧ decode cX7_lines 1 = .ok (.aload_n 0, 1) ∧ decode cX7_lines 2 = .ok (.bipush 10, 2) ∧ decode cX7_lines 4 = .ok (.iload_n 1, 1) ∧ decode cX7_lines 5 = .ok (.invokevirtual 25, 3) ∧ decode cX7_lines 8 = .ok (.iadd, 1) := by decide +kernel
theorem dX7_hasZero_3 : decode cX7_hasZero 3 = .ok (.invokevirtual 25, 3) := gd_X7_hasZero_3.1
theorem dX7_hasZero_6 : decode cX7_hasZero 6 = .ok (.ifCond .le 7, 3) := gd_X7_hasZero_3.2.1
theorem dX7_hasZero_13 : decode cX7_hasZero 13 = .ok (.iconst 0, 1) := gd_X7_hasZero_3.2.2.1
theorem dX7_hasZero_14 : decode cX7_hasZero 14 = .ok (.ireturn, 1) := gd_X7_hasZero_3.2.2.2.1
theorem dX7_lines_0 : decode cX7_lines 0 = .ok (.iconst 1, 1) := gd_X7_hasZero_3.2.2.2.2.1
theorem dX7_lines_1 : decode cX7_lines 1 = .ok (.aload_n 0, 1) := gd_X7_hasZero_3.2.2.2.2.2.1
theorem dX7_lines_2 : decode cX7_lines 2 = .ok (.bipush 10, 2) := gd_X7_hasZero_3.2.2.2.2.2.2.1
theorem dX7_lines_4 : decode cX7_lines 4 = .ok (.iload_n 1, 1) := gd_X7_hasZero_3.2.2.2.2.2.2.2.1
theorem dX7_lines_5 : decode cX7_lines 5 = .ok (.invokevirtual 25, 3) := gd_X7_hasZero_3.2.2.2.2.2.2.2.2.1
theorem dX7_lines_8 : decode cX7_lines 8 = .ok (.iadd, 1) := gd_X7_hasZero_3.2.2.2.2.2.2.2.2.2
theorem gd_X7_lines_9 : decode cX7_lines 9 = .ok (.ireturn, 1) ∧ decode cX7_occurrences 0 = .ok (.iconst 0, 1) ∧ decode cX7_occurrences 1 = .ok (.istore_n 3, 1) ∧ decode cX7_occurrences 2 = .ok (.iconst 0, 1) ∧ decode cX7_occurrences 3 = .ok (.istore 4, 2) ∧ decode cX7_occurrences 5 = .ok (.iload 4, 2) ∧ decode cX7_occurrences 7 = .ok (.iload_n 2, 1) ∧ decode cX7_occurrences 8 = .ok (.if_icmp .ge 31, 3) ∧ decode cX7_occurrences 39 = .ok (.iload_n 3, 1) ∧ decode cX7_occurrences 40 = .ok (.ireturn, 1) := by decide +kernel
theorem dX7_lines_9 : decode cX7_lines 9 = .ok (.ireturn, 1) := gd_X7_lines_9.1
theorem dX7_occurrences_0 : decode cX7_occurrences 0 = .ok (.iconst 0, 1) := gd_X7_lines_9.2.1
theorem dX7_occurrences_1 : decode cX7_occurrences 1 = .ok (.istore_n 3, 1) := gd_X7_lines_9.2.2.1
theorem dX7_occurrences_2 : decode cX7_occurrences 2 = .ok (.iconst 0, 1) := gd_X7_lines_9.2.2.2.1
theorem dX7_occurrences_3 : decode cX7_occurrences 3 = .ok (.istore 4, 2) := gd_X7_lines_9.2.2.2.2.1
theorem dX7_occurrences_5 : decode cX7_occurrences 5 = .ok (.iload 4, 2) := gd_X7_lines_9.2.2.2.2.2.1
theorem dX7_occurrences_7 : decode cX7_occurrences 7 = .ok (.iload_n 2, 1) := gd_X7_lines_9.2.2.2.2.2.2.1
theorem dX7_occurrences_8 : decode cX7_occurrences 8 = .ok (.if_icmp .ge 31, 3) := gd_X7_lines_9.2.2.2.2.2.2.2.1
theorem dX7_occurrences_39 : decode cX7_occurrences 39 = .ok (.iload_n 3, 1) := gd_X7_lines_9.2.2.2.2.2.2.2.2.1
theorem dX7_occurrences_40 : decode cX7_occurrences 40 = .ok (.ireturn, 1) := gd_X7_lines_9.2.2.2.2.2.2.2.2.2
theorem gd_X8_init_0 : decode cX8_init 0 = .ok (.aload_n 0, 1) ∧ decode cX8_init 1 = .ok (.invokespecial 3, 3) ∧ decode cX8_init 4 = .ok (.aload_n 0, 1) ∧ decode cX8_init 5 = .ok (.iconst 0, 1) ∧ decode cX8_init 6 = .ok (.putfield 9, 3) ∧ decode cX8_init 9 = .ok (.aload_n 0, 1) ∧ decode cX8_init 10 = .ok (.iconst 0, 1) ∧ decode cX8_init 11 = .ok (.putfield 15, 3) ∧ decode cX8_init 14 = .ok (.aload_n 0, 1) ∧ decode cX8_init 15 = .ok (.iconst 0, 1) := by decide +kernel
theorem dX8_init_0 : decode cX8_init 0 = .ok (.aload_n 0, 1) := gd_X8_init_0.1
theorem dX8_init_1 : decode cX8_init 1 = .ok (.invokespecial 3, 3) := gd_X8_init_0.2.1
theorem dX8_init_4 : decode cX8_init 4 = .ok (.aload_n 0, 1) := gd_X8_init_0.2.2.1
theorem dX8_init_5 : decode cX8_init 5 = .ok (.iconst 0, 1) := gd_X8_init_0.2.2.2.1
theorem dX8_init_6 : decode cX8_init 6 = .ok (.putfield 9, 3) := gd_X8_init_0.2.2.2.2.1
theorem dX8_init_9 : decode cX8_init 9 = .ok (.aload_n 0, 1) := gd_X8_init_0.2.2.2.2.2.1
theorem dX8_init_10 : decode cX8_init 10 = .ok (.iconst 0, 1) := gd_X8_init_0.2.2.2.2.2.2.1
theorem dX8_init_11 : decode cX8_init 11 = .ok (.putfield 15, 3) := gd_X8_init_0.2.2.2.2.2.2.2.1
theorem dX8_init_14 : decode cX8_init 14 = .ok (.aload_n 0, 1) := gd_X8_init_0.2.2.2.2.2.2.2.2.1
theorem dX8_init_15 : decode cX8_init 15 = .ok (.iconst 0, 1) := gd_X8_init_0.2.2.2.2.2.2.2.2.2
theorem gd_X8_init_16 : decode cX8_init 16 = .ok (.putfield 18, 3) ∧ decode cX8_init 19 = .ok (.aload_n 0, 1) ∧ decode cX8_init 20 = .ok (.iconst 0, 1) ∧ decode cX8_init 21 = .ok (.putfield 21, 3) ∧ decode cX8_init 24 = .ok (.aload_n 0, 1) ∧ decode cX8_init 25 = .ok (.iconst 0, 1) ∧ decode cX8_init 26 = .ok (.newarray .byte, 2) ∧ decode cX8_init 28 = .ok (.putfield 25, 3) ∧ decode cX8_init 31 = .ok (.aload_n 0, 1) ∧ decode cX8_init 32 = .ok (.iconst 0, 1) := by decide +kernel
theorem dX8_init_16 : decode cX8_init 16 = .ok (.putfield 18, 3) := gd_X8_init_16.1
theorem dX8_init_19 : decode cX8_init 19 = .ok (.aload_n 0, 1) := gd_X8_init_16.2.1
theorem dX8_init_20 : decode cX8_init 20 = .ok (.iconst 0, 1) := gd_X8_init_16.2.2.1
theorem dX8_init_21 : decode cX8_init 21 = .ok (.putfield 21, 3) := gd_X8_init_16.2.2.2.1
theorem dX8_init_24 : decode cX8_init 24 = .ok (.aload_n 0, 1) := gd_X8_init_16.2.2.2.2.1
theorem dX8_init_25 : decode cX8_init 25 = .ok (.iconst 0, 1) := gd_X8_init_16.2.2.2.2.2.1
theorem dX8_init_26 : decode cX8_init 26 = .ok (.newarray .byte, 2) := gd_X8_init_16.2.2.2.2.2.2.1
theorem dX8_init_28 : decode cX8_init 28 = .ok (.putfield 25, 3) := gd_X8_init_16.2.2.2.2.2.2.2.1
theorem dX8_init_31 : decode cX8_init 31 = .ok (.aload_n 0, 1) := gd_X8_init_16.2.2.2.2.2.2.2.2.1
theorem dX8_init_32 : decode cX8_init 32 = .ok (.iconst 0, 1) := gd_X8_init_16.2.2.2.2.2.2.2.2.2
theorem gd_X8_init_33 : decode cX8_init 33 = .ok (.putfield 29, 3) ∧ decode cX8_init 36 = .ok (.aload_n 0, 1) ∧ decode cX8_init 37 = .ok (.iconst 0, 1) ∧ decode cX8_init 38 = .ok (.putfield 32, 3) ∧ decode cX8_init 41 = .ok (.aload_n 0, 1) ∧ decode cX8_init 42 = .ok (.iconst 0, 1) ∧ decode cX8_init 43 = .ok (.putfield 35, 3) ∧ decode cX8_init 46 = .ok (.return_, 1) ∧ decode cX8_begin 0 = .ok (.aload_n 0, 1) ∧ decode cX8_begin 1 = .ok (.aload_n 1, 1) := by decide +kernel
theorem dX8_init_33 : decode cX8_init 33 = .ok (.putfield 29, 3) := gd_X8_init_33.1
theorem dX8_init_36 : decode cX8_init 36 = .ok (.aload_n 0, 1) := gd_X8_init_33.2.1
theorem dX8_init_37 : decode cX8_init 37 = .ok (.iconst 0, 1) := gd_X8_init_33.2.2.1
theorem dX8_init_38 : decode cX8_init 38 = .ok (.putfield 32, 3) := gd_X8_init_33.2.2.2.1
theorem dX8_init_41 : decode cX8_init 41 = .ok (.aload_n 0, 1) := gd_X8_init_33.2.2.2.2.1
theorem dX8_init_42 : decode cX8_init 42 = .ok (.iconst 0, 1) := gd_X8_init_33.2.2.2.2.2.1
theorem dX8_init_43 : decode cX8_init 43 = .ok (.putfield 35, 3) := gd_X8_init_33.2.2.2.2.2.2.1
theorem dX8_init_46 : decode cX8_init 46 = .ok (.return_, 1) := gd_X8_init_33.2.2.2.2.2.2.2.1
theorem dX8_begin_0 : decode cX8_begin 0 = .ok (.aload_n 0, 1) := gd_X8_init_33.2.2.2.2.2.2.2.2.1
theorem dX8_begin_1 : decode cX8_begin 1 = .ok (.aload_n 1, 1) := gd_X8_init_33.2.2.2.2.2.2.2.2.2
theorem gd_X8_begin_2 : decode cX8_begin 2 = .ok (.putfield 25, 3) ∧ decode cX8_begin 5 = .ok (.aload_n 0, 1) ∧ decode cX8_begin 6 = .ok (.iload_n 2, 1) ∧ decode cX8_begin 7 = .ok (.aload_n 1, 1) ∧ decode cX8_begin 8 = .ok (.arraylength, 1) ∧ decode cX8_begin 9 = .ok (.invokestatic 38, 3) ∧ decode cX8_begin 12 = .ok (.putfield 29, 3) ∧ decode cX8_begin 15 = .ok (.aload_n 0, 1) ∧ decode cX8_begin 16 = .ok (.iconst 0, 1) ∧ decode cX8_begin 17 = .ok (.putfield 32, 3) := by decide +kernel
theorem dX8_begin_2 : decode cX8_begin 2 = .ok (.putfield 25, 3) := gd_X8_begin_2.1
theorem dX8_begin_5 : decode cX8_begin 5 = .ok (.aload_n 0, 1) := gd_X8_begin_2.2.1
theorem dX8_begin_6 : decode cX8_begin 6 = .ok (.iload_n 2, 1) := gd_X8_begin_2.2.2.1
theorem dX8_begin_7 : decode cX8_begin 7 = .ok (.aload_n 1, 1) := gd_X8_begin_2.2.2.2.1
theorem dX8_begin_8 : decode cX8_begin 8 = .ok (.arraylength, 1) := gd_X8_begin_2.2.2.2.2.1
theorem dX8_begin_9 : decode cX8_begin 9 = .ok (.invokestatic 38, 3) := gd_X8_begin_2.2.2.2.2.2.1
theorem dX8_begin_12 : decode cX8_begin 12 = .ok (.putfield 29, 3) := gd_X8_begin_2.2.2.2.2.2.2.1
theorem dX8_begin_15 : decode cX8_begin 15 = .ok (.aload_n 0, 1) := gd_X8_begin_2.2.2.2.2.2.2.2.1
theorem dX8_begin_16 : decode cX8_begin 16 = .ok (.iconst 0, 1) := gd_X8_begin_2.2.2.2.2.2.2.2.2.1
theorem dX8_begin_17 : decode cX8_begin 17 = .ok (.putfield 32, 3) := gd_X8_begin_2.2.2.2.2.2.2.2.2.2
theorem gd_X8_begin_20 : decode cX8_begin 20 = .ok (.aload_n 0, 1) ∧ decode cX8_begin 21 = .ok (.iconst 0, 1) ∧ decode cX8_begin 22 = .ok (.putfield 18, 3) ∧ decode cX8_begin 25 = .ok (.aload_n 0, 1) ∧ decode cX8_begin 26 = .ok (.iconst 0, 1) ∧ decode cX8_begin 27 = .ok (.putfield 35, 3) ∧ decode cX8_begin 30 = .ok (.return_, 1) ∧ decode cX9_init 0 = .ok (.aload_n 0, 1) ∧ decode cX9_init 1 = .ok (.invokespecial 3, 3) ∧ decode cX9_init 4 = .ok (.aload_n 0, 1) := by decide +kernel
theorem dX8_begin_20 : decode cX8_begin 20 = .ok (.aload_n 0, 1) := gd_X8_begin_20.1
theorem dX8_begin_21 : decode cX8_begin 21 = .ok (.iconst 0, 1) := gd_X8_begin_20.2.1
theorem dX8_begin_22 : decode cX8_begin 22 = .ok (.putfield 18, 3) := gd_X8_begin_20.2.2.1
theorem dX8_begin_25 : decode cX8_begin 25 = .ok (.aload_n 0, 1) := gd_X8_begin_20.2.2.2.1
theorem dX8_begin_26 : decode cX8_begin 26 = .ok (.iconst 0, 1) := gd_X8_begin_20.2.2.2.2.1
theorem dX8_begin_27 : decode cX8_begin 27 = .ok (.putfield 35, 3) := gd_X8_begin_20.2.2.2.2.2.1
theorem dX8_begin_30 : decode cX8_begin 30 = .ok (.return_, 1) := gd_X8_begin_20.2.2.2.2.2.2.1
theorem dX9_init_0 : decode cX9_init 0 = .ok (.aload_n 0, 1) := gd_X8_begin_20.2.2.2.2.2.2.2.1
theorem dX9_init_1 : decode cX9_init 1 = .ok (.invokespecial 3, 3) := gd_X8_begin_20.2.2.2.2.2.2.2.2.1
theorem dX9_init_4 : decode cX9_init 4 = .ok (.aload_n 0, 1) := gd_X8_begin_20.2.2.2.2.2.2.2.2.2
theorem gd_X9_init_5 : decode cX9_init 5 = .ok (.new 9, 3) ∧ decode cX9_init 8 = .ok (.dup, 1) ∧ decode cX9_init 9 = .ok (.invokespecial 11, 3) ∧ decode cX9_init 12 = .ok (.putfield 12, 3) ∧ decode cX9_init 15 = .ok (.aload_n 0, 1) ∧ decode cX9_init 16 = .ok (.bipush 40, 2) ∧ decode cX9_init 18 = .ok (.newarray .byte, 2) ∧ decode cX9_init 20 = .ok (.putfield 18, 3) ∧ decode cX9_init 23 = .ok (.aload_n 0, 1) ∧ decode cX9_init 24 = .ok (.bipush 40, 2) := by decide +kernel
theorem dX9_init_5 : decode cX9_init 5 = .ok (.new 9, 3) := gd_X9_init_5.1
theorem dX9_init_8 : decode cX9_init 8 = .ok (.dup, 1) := gd_X9_init_5.2.1
theorem dX9_init_9 : decode cX9_init 9 = .ok (.invokespecial 11, 3) := gd_X9_init_5.2.2.1
theorem dX9_init_12 : decode cX9_init 12 = .ok (.putfield 12, 3) := gd_X9_init_5.2.2.2.1
theorem dX9_init_15 : decode cX9_init 15 = .ok (.aload_n 0, 1) := gd_X9_init_5.2.2.2.2.1
theorem dX9_init_16 : decode cX9_init 16 = .ok (.bipush 40, 2) := gd_X9_init_5.2.2.2.2.2.1
theorem dX9_init_18 : decode cX9_init 18 = .ok (.newarray .byte, 2) := gd_X9_init_5.2.2.2.2.2.2.1
theorem dX9_init_20 : decode cX9_init 20 = .ok (.putfield 18, 3) := gd_X9_init_5.2.2.2.2.2.2.2.1
theorem dX9_init_23 : decode cX9_init 23 = .ok (.aload_n 0, 1) := gd_X9_init_5.2.2.2.2.2.2.2.2.1
theorem dX9_init_24 : decode cX9_init 24 = .ok (.bipush 40, 2) := gd_X9_init_5.2.2.2.2.2.2.2.2.2
theorem gd_X9_init_26 : decode cX9_init 26 = .ok (.newarray .byte, 2) ∧ decode cX9_init 28 = .ok (.putfield 22, 3) ∧ decode cX9_init 31 = .ok (.aload_n 0, 1) ∧ decode cX9_init 32 = .ok (.iconst 0, 1) ∧ decode cX9_init 33 = .ok (.putfield 25, 3) ∧ decode cX9_init 36 = .ok (.aload_n 0, 1) ∧ decode cX9_init 37 = .ok (.lconst 0, 1) ∧ decode cX9_init 38 = .ok (.putfield 29, 3) ∧ decode cX9_init 41 = .ok (.aload_n 0, 1) ∧ decode cX9_init 42 = .ok (.bipush 24, 2) := by decide +kernel
theorem dX9_init_26 : decode cX9_init 26 = .ok (.newarray .byte, 2) := gd_X9_init_26.1
theorem dX9_init_28 : decode cX9_init 28 = .ok (.putfield 22, 3) := gd_X9_init_26.2.1
theorem dX9_init_31 : decode cX9_init 31 = .ok (.aload_n 0, 1) := gd_X9_init_26.2.2.1
theorem dX9_init_32 : decode cX9_init 32 = .ok (.iconst 0, 1) := gd_X9_init_26.2.2.2.1
theorem dX9_init_33 : decode cX9_init 33 = .ok (.putfield 25, 3) := gd_X9_init_26.2.2.2.2.1
theorem dX9_init_36 : decode cX9_init 36 = .ok (.aload_n 0, 1) := gd_X9_init_26.2.2.2.2.2.1
theorem dX9_init_37 : decode cX9_init 37 = .ok (.lconst 0, 1) := gd_X9_init_26.2.2.2.2.2.2.1
theorem dX9_init_38 : decode cX9_init 38 = .ok (.putfield 29, 3) := gd_X9_init_26.2.2.2.2.2.2.2.1
theorem dX9_init_41 : decode cX9_init 41 = .ok (.aload_n 0, 1) := gd_X9_init_26.2.2.2.2.2.2.2.2.1
theorem dX9_init_42 : decode cX9_init 42 = .ok (.bipush 24, 2) := gd_X9_init_26.2.2.2.2.2.2.2.2.2
theorem gd_X9_init_44 : decode cX9_init 44 = .ok (.newarray .byte, 2) ∧ decode cX9_init 46 = .ok (.putfield 33, 3) ∧ decode cX9_init 49 = .ok (.aload_n 0, 1) ∧ decode cX9_init 50 = .ok (.new 36, 3) ∧ decode cX9_init 53 = .ok (.dup, 1) ∧ decode cX9_init 54 = .ok (.bipush 12, 2) ∧ decode cX9_init 56 = .ok (.bipush 24, 2) ∧ decode cX9_init 58 = .ok (.invokespecial 38, 3) ∧ decode cX9_init 61 = .ok (.putfield 41, 3) ∧ decode cX9_init 64 = .ok (.aload_n 0, 1) := by decide +kernel
theorem dX9_init_44 : decode cX9_init 44 = .ok (.newarray .byte, 2) := gd_X9_init_44.1
theorem dX9_init_46 : decode cX9_init 46 = .ok (.putfield 33, 3) := gd_X9_init_44.2.1
theorem dX9_init_49 : decode cX9_init 49 = .ok (.aload_n 0, 1) := gd_X9_init_44.2.2.1
theorem dX9_init_50 : decode cX9_init 50 = .ok (.new 36, 3) := gd_X9_init_44.2.2.2.1
theorem dX9_init_53 : decode cX9_init 53 = .ok (.dup, 1) := gd_X9_init_44.2.2.2.2.1
theorem dX9_init_54 : decode cX9_init 54 = .ok (.bipush 12, 2) := gd_X9_init_44.2.2.2.2.2.1
theorem dX9_init_56 : decode cX9_init 56 = .ok (.bipush 24, 2) := gd_X9_init_44.2.2.2.2.2.2.1
theorem dX9_init_58 : decode cX9_init 58 = .ok (.invokespecial 38, 3) := gd_X9_init_44.2.2.2.2.2.2.2.1
theorem dX9_init_61 : decode cX9_init 61 = .ok (.putfield 41, 3) := gd_X9_init_44.2.2.2.2.2.2.2.2.1
theorem dX9_init_64 : decode cX9_init 64 = .ok (.aload_n 0, 1) := gd_X9_init_44.2.2.2.2.2.2.2.2.2
theorem gd_X9_init_65 : decode cX9_init 65 = .ok (.new 36, 3) ∧ decode cX9_init 68 = .ok (.dup, 1) ∧ decode cX9_init 69 = .ok (.bipush 12, 2) ∧ decode cX9_init 71 = .ok (.bipush 24, 2) ∧ decode cX9_init 73 = .ok (.invokespecial 38, 3) ∧ decode cX9_init 76 = .ok (.putfield 45, 3) ∧ decode cX9_init 79 = .ok (.return_, 1) ∧ decode cX9_turnParts 0 = .ok (.aload_n 1, 1) ∧ decode cX9_turnParts 1 = .ok (.getfield 48, 3) ∧ decode cX9_turnParts 4 = .ok (.astore_n 2, 1) := by decide +kernel
theorem dX9_init_65 : decode cX9_init 65 = .ok (.new 36, 3) := gd_X9_init_65.1
theorem dX9_init_68 : decode cX9_init 68 = .ok (.dup, 1) := gd_X9_init_65.2.1
theorem dX9_init_69 : decode cX9_init 69 = .ok (.bipush 12, 2) := gd_X9_init_65.2.2.1
theorem dX9_init_71 : decode cX9_init 71 = .ok (.bipush 24, 2) := gd_X9_init_65.2.2.2.1
theorem dX9_init_73 : decode cX9_init 73 = .ok (.invokespecial 38, 3) := gd_X9_init_65.2.2.2.2.1
theorem dX9_init_76 : decode cX9_init 76 = .ok (.putfield 45, 3) := gd_X9_init_65.2.2.2.2.2.1
theorem dX9_init_79 : decode cX9_init 79 = .ok (.return_, 1) := gd_X9_init_65.2.2.2.2.2.2.1
theorem dX9_turnParts_0 : decode cX9_turnParts 0 = .ok (.aload_n 1, 1) := gd_X9_init_65.2.2.2.2.2.2.2.1
theorem dX9_turnParts_1 : decode cX9_turnParts 1 = .ok (.getfield 48, 3) := gd_X9_init_65.2.2.2.2.2.2.2.2.1
theorem dX9_turnParts_4 : decode cX9_turnParts 4 = .ok (.astore_n 2, 1) := gd_X9_init_65.2.2.2.2.2.2.2.2.2
theorem gd_X9_turnParts_5 : decode cX9_turnParts 5 = .ok (.iconst 0, 1) ∧ decode cX9_turnParts 6 = .ok (.istore_n 3, 1) ∧ decode cX9_turnParts 7 = .ok (.iload_n 3, 1) ∧ decode cX9_turnParts 8 = .ok (.aload_n 2, 1) ∧ decode cX9_turnParts 9 = .ok (.getfield 53, 3) ∧ decode cX9_turnParts 12 = .ok (.if_icmp .ge 75, 3) ∧ decode cX9_turnParts 87 = .ok (.return_, 1) ∧ decode cX10_init 0 = .ok (.aload_n 0, 1) ∧ decode cX10_init 1 = .ok (.invokespecial 3, 3) ∧ decode cX10_init 4 = .ok (.aload_n 0, 1) := by decide +kernel
theorem dX9_turnParts_5 : decode cX9_turnParts 5 = .ok (.iconst 0, 1) := gd_X9_turnParts_5.1
theorem dX9_turnParts_6 : decode cX9_turnParts 6 = .ok (.istore_n 3, 1) := gd_X9_turnParts_5.2.1
theorem dX9_turnParts_7 : decode cX9_turnParts 7 = .ok (.iload_n 3, 1) := gd_X9_turnParts_5.2.2.1
theorem dX9_turnParts_8 : decode cX9_turnParts 8 = .ok (.aload_n 2, 1) := gd_X9_turnParts_5.2.2.2.1
theorem dX9_turnParts_9 : decode cX9_turnParts 9 = .ok (.getfield 53, 3) := gd_X9_turnParts_5.2.2.2.2.1
theorem dX9_turnParts_12 : decode cX9_turnParts 12 = .ok (.if_icmp .ge 75, 3) := gd_X9_turnParts_5.2.2.2.2.2.1
theorem dX9_turnParts_87 : decode cX9_turnParts 87 = .ok (.return_, 1) := gd_X9_turnParts_5.2.2.2.2.2.2.1
theorem dX10_init_0 : decode cX10_init 0 = .ok (.aload_n 0, 1) := gd_X9_turnParts_5.2.2.2.2.2.2.2.1
theorem dX10_init_1 : decode cX10_init 1 = .ok (.invokespecial 3, 3) := gd_X9_turnParts_5.2.2.2.2.2.2.2.2.1
theorem dX10_init_4 : decode cX10_init 4 = .ok (.aload_n 0, 1) := gd_X9_turnParts_5.2.2.2.2.2.2.2.2.2
theorem gd_X10_init_5 : decode cX10_init 5 = .ok (.iconst 0, 1) ∧ decode cX10_init 6 = .ok (.putfield 9, 3) ∧ decode cX10_init 9 = .ok (.aload_n 0, 1) ∧ decode cX10_init 10 = .ok (.iload_n 2, 1) ∧ decode cX10_init 11 = .ok (.putfield 15, 3) ∧ decode cX10_init 14 = .ok (.aload_n 0, 1) ∧ decode cX10_init 15 = .ok (.iload_n 1, 1) ∧ decode cX10_init 16 = .ok (.iload_n 2, 1) ∧ decode cX10_init 17 = .ok (.imul, 1) ∧ decode cX10_init 18 = .ok (.newarray .byte, 2) := by decide +kernel
theorem dX10_init_5 : decode cX10_init 5 = .ok (.iconst 0, 1) := gd_X10_init_5.1
theorem dX10_init_6 : decode cX10_init 6 = .ok (.putfield 9, 3) := gd_X10_init_5.2.1
theorem dX10_init_9 : decode cX10_init 9 = .ok (.aload_n 0, 1) := gd_X10_init_5.2.2.1
theorem dX10_init_10 : decode cX10_init 10 = .ok (.iload_n 2, 1) := gd_X10_init_5.2.2.2.1
theorem dX10_init_11 : decode cX10_init 11 = .ok (.putfield 15, 3) := gd_X10_init_5.2.2.2.2.1
theorem dX10_init_14 : decode cX10_init 14 = .ok (.aload_n 0, 1) := gd_X10_init_5.2.2.2.2.2.1
theorem dX10_init_15 : decode cX10_init 15 = .ok (.iload_n 1, 1) := gd_X10_init_5.2.2.2.2.2.2.1
theorem dX10_init_16 : decode cX10_init 16 = .ok (.iload_n 2, 1) := gd_X10_init_5.2.2.2.2.2.2.2.1
theorem dX10_init_17 : decode cX10_init 17 = .ok (.imul, 1) := gd_X10_init_5.2.2.2.2.2.2.2.2.1
theorem dX10_init_18 : decode cX10_init 18 = .ok (.newarray .byte, 2) := gd_X10_init_5.2.2.2.2.2.2.2.2.2
theorem gd_X10_init_20 : decode cX10_init 20 = .ok (.putfield 18, 3) ∧ decode cX10_init 23 = .ok (.aload_n 0, 1) ∧ decode cX10_init 24 = .ok (.iload_n 1, 1) ∧ decode cX10_init 25 = .ok (.newarray .int, 2) ∧ decode cX10_init 27 = .ok (.putfield 22, 3) ∧ decode cX10_init 30 = .ok (.return_, 1) ∧ decode cX10_letterAt 0 = .ok (.iload_n 1, 1) ∧ decode cX10_letterAt 1 = .ok (.ifCond .lt 25, 3) ∧ decode cX10_letterAt 4 = .ok (.iload_n 1, 1) ∧ decode cX10_letterAt 5 = .ok (.aload_n 0, 1) := by decide +kernel
theorem dX10_init_20 : decode cX10_init 20 = .ok (.putfield 18, 3) := gd_X10_init_20.1
theorem dX10_init_23 : decode cX10_init 23 = .ok (.aload_n 0, 1) := gd_X10_init_20.2.1
theorem dX10_init_24 : decode cX10_init 24 = .ok (.iload_n 1, 1) := gd_X10_init_20.2.2.1
theorem dX10_init_25 : decode cX10_init 25 = .ok (.newarray .int, 2) := gd_X10_init_20.2.2.2.1
theorem dX10_init_27 : decode cX10_init 27 = .ok (.putfield 22, 3) := gd_X10_init_20.2.2.2.2.1
theorem dX10_init_30 : decode cX10_init 30 = .ok (.return_, 1) := gd_X10_init_20.2.2.2.2.2.1
theorem dX10_letterAt_0 : decode cX10_letterAt 0 = .ok (.iload_n 1, 1) := gd_X10_init_20.2.2.2.2.2.2.1
theorem dX10_letterAt_1 : decode cX10_letterAt 1 = .ok (.ifCond .lt 25, 3) := gd_X10_init_20.2.2.2.2.2.2.2.1
theorem dX10_letterAt_4 : decode cX10_letterAt 4 = .ok (.iload_n 1, 1) := gd_X10_init_20.2.2.2.2.2.2.2.2.1
theorem dX10_letterAt_5 : decode cX10_letterAt 5 = .ok (.aload_n 0, 1) := gd_X10_init_20.2.2.2.2.2.2.2.2.2
theorem gd_X10_letterAt_6 : decode cX10_letterAt 6 = .ok (.getfield 9, 3) ∧ decode cX10_letterAt 9 = .ok (.if_icmp .ge 17, 3) ∧ decode cX10_letterAt 26 = .ok (.iconst (-1), 1) ∧ decode cX10_letterAt 27 = .ok (.ireturn, 1) ∧ decode cX11_init 0 = .ok (.aload_n 0, 1) ∧ decode cX11_init 1 = .ok (.invokespecial 3, 3) ∧ decode cX11_init 4 = .ok (.aload_n 0, 1) ∧ decode cX11_init 5 = .ok (.new 9, 3) ∧ decode cX11_init 8 = .ok (.dup, 1) ∧ decode cX11_init 9 = .ok (.invokespecial 11, 3) := by decide +kernel
theorem dX10_letterAt_6 : decode cX10_letterAt 6 = .ok (.getfield 9, 3) := gd_X10_letterAt_6.1
theorem dX10_letterAt_9 : decode cX10_letterAt 9 = .ok (.if_icmp .ge 17, 3) := gd_X10_letterAt_6.2.1
theorem dX10_letterAt_26 : decode cX10_letterAt 26 = .ok (.iconst (-1), 1) := gd_X10_letterAt_6.2.2.1
theorem dX10_letterAt_27 : decode cX10_letterAt 27 = .ok (.ireturn, 1) := gd_X10_letterAt_6.2.2.2.1
theorem dX11_init_0 : decode cX11_init 0 = .ok (.aload_n 0, 1) := gd_X10_letterAt_6.2.2.2.2.1
theorem dX11_init_1 : decode cX11_init 1 = .ok (.invokespecial 3, 3) := gd_X10_letterAt_6.2.2.2.2.2.1
theorem dX11_init_4 : decode cX11_init 4 = .ok (.aload_n 0, 1) := gd_X10_letterAt_6.2.2.2.2.2.2.1
theorem dX11_init_5 : decode cX11_init 5 = .ok (.new 9, 3) := gd_X10_letterAt_6.2.2.2.2.2.2.2.1
theorem dX11_init_8 : decode cX11_init 8 = .ok (.dup, 1) := gd_X10_letterAt_6.2.2.2.2.2.2.2.2.1
theorem dX11_init_9 : decode cX11_init 9 = .ok (.invokespecial 11, 3) := gd_X10_letterAt_6.2.2.2.2.2.2.2.2.2
theorem gd_X11_init_12 : decode cX11_init 12 = .ok (.putfield 12, 3) ∧ decode cX11_init 15 = .ok (.aload_n 0, 1) ∧ decode cX11_init 16 = .ok (.bipush 6, 2) ∧ decode cX11_init 18 = .ok (.anewarray 16, 3) ∧ decode cX11_init 21 = .ok (.putfield 18, 3) ∧ decode cX11_init 24 = .ok (.aload_n 0, 1) ∧ decode cX11_init 25 = .ok (.iconst 0, 1) ∧ decode cX11_init 26 = .ok (.putfield 22, 3) ∧ decode cX11_init 29 = .ok (.aload_n 0, 1) ∧ decode cX11_init 30 = .ok (.iconst (-1), 1) := by decide +kernel
theorem dX11_init_12 : decode cX11_init 12 = .ok (.putfield 12, 3) := gd_X11_init_12.1
theorem dX11_init_15 : decode cX11_init 15 = .ok (.aload_n 0, 1) := gd_X11_init_12.2.1
theorem dX11_init_16 : decode cX11_init 16 = .ok (.bipush 6, 2) := gd_X11_init_12.2.2.1
theorem dX11_init_18 : decode cX11_init 18 = .ok (.anewarray 16, 3) := gd_X11_init_12.2.2.2.1
theorem dX11_init_21 : decode cX11_init 21 = .ok (.putfield 18, 3) := gd_X11_init_12.2.2.2.2.1
theorem dX11_init_24 : decode cX11_init 24 = .ok (.aload_n 0, 1) := gd_X11_init_12.2.2.2.2.2.1
theorem dX11_init_25 : decode cX11_init 25 = .ok (.iconst 0, 1) := gd_X11_init_12.2.2.2.2.2.2.1
theorem dX11_init_26 : decode cX11_init 26 = .ok (.putfield 22, 3) := gd_X11_init_12.2.2.2.2.2.2.2.1
theorem dX11_init_29 : decode cX11_init 29 = .ok (.aload_n 0, 1) := gd_X11_init_12.2.2.2.2.2.2.2.2.1
theorem dX11_init_30 : decode cX11_init 30 = .ok (.iconst (-1), 1) := gd_X11_init_12.2.2.2.2.2.2.2.2.2
theorem gd_X11_init_31 : decode cX11_init 31 = .ok (.putfield 26, 3) ∧ decode cX11_init 34 = .ok (.aload_n 0, 1) ∧ decode cX11_init 35 = .ok (.new 16, 3) ∧ decode cX11_init 38 = .ok (.dup, 1) ∧ decode cX11_init 39 = .ok (.invokespecial 29, 3) ∧ decode cX11_init 42 = .ok (.putfield 30, 3) ∧ decode cX11_init 45 = .ok (.aload_n 0, 1) ∧ decode cX11_init 46 = .ok (.new 34, 3) ∧ decode cX11_init 49 = .ok (.dup, 1) ∧ decode cX11_init 50 = .ok (.invokespecial 36, 3) := by decide +kernel
theorem dX11_init_31 : decode cX11_init 31 = .ok (.putfield 26, 3) := gd_X11_init_31.1
theorem dX11_init_34 : decode cX11_init 34 = .ok (.aload_n 0, 1) := gd_X11_init_31.2.1
theorem dX11_init_35 : decode cX11_init 35 = .ok (.new 16, 3) := gd_X11_init_31.2.2.1
theorem dX11_init_38 : decode cX11_init 38 = .ok (.dup, 1) := gd_X11_init_31.2.2.2.1
theorem dX11_init_39 : decode cX11_init 39 = .ok (.invokespecial 29, 3) := gd_X11_init_31.2.2.2.2.1
theorem dX11_init_42 : decode cX11_init 42 = .ok (.putfield 30, 3) := gd_X11_init_31.2.2.2.2.2.1
theorem dX11_init_45 : decode cX11_init 45 = .ok (.aload_n 0, 1) := gd_X11_init_31.2.2.2.2.2.2.1
theorem dX11_init_46 : decode cX11_init 46 = .ok (.new 34, 3) := gd_X11_init_31.2.2.2.2.2.2.2.1
theorem dX11_init_49 : decode cX11_init 49 = .ok (.dup, 1) := gd_X11_init_31.2.2.2.2.2.2.2.2.1
theorem dX11_init_50 : decode cX11_init 50 = .ok (.invokespecial 36, 3) := gd_X11_init_31.2.2.2.2.2.2.2.2.2
theorem gd_X11_init_53 : decode cX11_init 53 = .ok (.putfield 37, 3) ∧ decode cX11_init 56 = .ok (.aload_n 0, 1) ∧ decode cX11_init 57 = .ok (.new 41, 3) ∧ decode cX11_init 60 = .ok (.dup, 1) ∧ decode cX11_init 61 = .ok (.invokespecial 43, 3) ∧ decode cX11_init 64 = .ok (.putfield 44, 3) ∧ decode cX11_init 67 = .ok (.aload_n 0, 1) ∧ decode cX11_init 68 = .ok (.new 48, 3) ∧ decode cX11_init 71 = .ok (.dup, 1) ∧ decode cX11_init 72 = .ok (.bipush 12, 2) := by decide +kernel
theorem dX11_init_53 : decode cX11_init 53 = .ok (.putfield 37, 3) := gd_X11_init_53.1
theorem dX11_init_56 : decode cX11_init 56 = .ok (.aload_n 0, 1) := gd_X11_init_53.2.1
theorem dX11_init_57 : decode cX11_init 57 = .ok (.new 41, 3) := gd_X11_init_53.2.2.1
theorem dX11_init_60 : decode cX11_init 60 = .ok (.dup, 1) := gd_X11_init_53.2.2.2.1
theorem dX11_init_61 : decode cX11_init 61 = .ok (.invokespecial 43, 3) := gd_X11_init_53.2.2.2.2.1
theorem dX11_init_64 : decode cX11_init 64 = .ok (.putfield 44, 3) := gd_X11_init_53.2.2.2.2.2.1
theorem dX11_init_67 : decode cX11_init 67 = .ok (.aload_n 0, 1) := gd_X11_init_53.2.2.2.2.2.2.1
theorem dX11_init_68 : decode cX11_init 68 = .ok (.new 48, 3) := gd_X11_init_53.2.2.2.2.2.2.2.1
theorem dX11_init_71 : decode cX11_init 71 = .ok (.dup, 1) := gd_X11_init_53.2.2.2.2.2.2.2.2.1
theorem dX11_init_72 : decode cX11_init 72 = .ok (.bipush 12, 2) := gd_X11_init_53.2.2.2.2.2.2.2.2.2
theorem gd_X11_init_74 : decode cX11_init 74 = .ok (.bipush 24, 2) ∧ decode cX11_init 76 = .ok (.invokespecial 50, 3) ∧ decode cX11_init 79 = .ok (.putfield 53, 3) ∧ decode cX11_init 82 = .ok (.aload_n 0, 1) ∧ decode cX11_init 83 = .ok (.new 57, 3) ∧ decode cX11_init 86 = .ok (.dup, 1) ∧ decode cX11_init 87 = .ok (.invokespecial 59, 3) ∧ decode cX11_init 90 = .ok (.putfield 60, 3) ∧ decode cX11_init 93 = .ok (.aload_n 0, 1) ∧ decode cX11_init 94 = .ok (.new 64, 3) := by decide +kernel
theorem dX11_init_74 : decode cX11_init 74 = .ok (.bipush 24, 2) := gd_X11_init_74.1
theorem dX11_init_76 : decode cX11_init 76 = .ok (.invokespecial 50, 3) := gd_X11_init_74.2.1
theorem dX11_init_79 : decode cX11_init 79 = .ok (.putfield 53, 3) := gd_X11_init_74.2.2.1
theorem dX11_init_82 : decode cX11_init 82 = .ok (.aload_n 0, 1) := gd_X11_init_74.2.2.2.1
theorem dX11_init_83 : decode cX11_init 83 = .ok (.new 57, 3) := gd_X11_init_74.2.2.2.2.1
theorem dX11_init_86 : decode cX11_init 86 = .ok (.dup, 1) := gd_X11_init_74.2.2.2.2.2.1
theorem dX11_init_87 : decode cX11_init 87 = .ok (.invokespecial 59, 3) := gd_X11_init_74.2.2.2.2.2.2.1
theorem dX11_init_90 : decode cX11_init 90 = .ok (.putfield 60, 3) := gd_X11_init_74.2.2.2.2.2.2.2.1
theorem dX11_init_93 : decode cX11_init 93 = .ok (.aload_n 0, 1) := gd_X11_init_74.2.2.2.2.2.2.2.2.1
theorem dX11_init_94 : decode cX11_init 94 = .ok (.new 64, 3) := gd_X11_init_74.2.2.2.2.2.2.2.2.2
theorem gd_X11_init_97 : decode cX11_init 97 = .ok (.dup, 1) ∧ decode cX11_init 98 = .ok (.invokespecial 66, 3) ∧ decode cX11_init 101 = .ok (.putfield 67, 3) ∧ decode cX11_init 104 = .ok (.aload_n 0, 1) ∧ decode cX11_init 105 = .ok (.bipush 100, 2) ∧ decode cX11_init 107 = .ok (.newarray .int, 2) ∧ decode cX11_init 109 = .ok (.putfield 71, 3) ∧ decode cX11_init 112 = .ok (.aload_n 0, 1) ∧ decode cX11_init 113 = .ok (.iconst 0, 1) ∧ decode cX11_init 114 = .ok (.putfield 75, 3) := by decide +kernel
theorem dX11_init_97 : decode cX11_init 97 = .ok (.dup, 1) := gd_X11_init_97.1
theorem dX11_init_98 : decode cX11_init 98 = .ok (.invokespecial 66, 3) := gd_X11_init_97.2.1
theorem dX11_init_101 : decode cX11_init 101 = .ok (.putfield 67, 3) := gd_X11_init_97.2.2.1
theorem dX11_init_104 : decode cX11_init 104 = .ok (.aload_n 0, 1) := gd_X11_init_97.2.2.2.1
theorem dX11_init_105 : decode cX11_init 105 = .ok (.bipush 100, 2) := gd_X11_init_97.2.2.2.2.1
theorem dX11_init_107 : decode cX11_init 107 = .ok (.newarray .int, 2) := gd_X11_init_97.2.2.2.2.2.1
theorem dX11_init_109 : decode cX11_init 109 = .ok (.putfield 71, 3) := gd_X11_init_97.2.2.2.2.2.2.1
theorem dX11_init_112 : decode cX11_init 112 = .ok (.aload_n 0, 1) := gd_X11_init_97.2.2.2.2.2.2.2.1
theorem dX11_init_113 : decode cX11_init 113 = .ok (.iconst 0, 1) := gd_X11_init_97.2.2.2.2.2.2.2.2.1
theorem dX11_init_114 : decode cX11_init 114 = .ok (.putfield 75, 3) := gd_X11_init_97.2.2.2.2.2.2.2.2.2
theorem gd_X11_init_117 : decode cX11_init 117 = .ok (.aload_n 0, 1) ∧ decode cX11_init 118 = .ok (.sipush 200, 3) ∧ decode cX11_init 121 = .ok (.newarray .int, 2) ∧ decode cX11_init 123 = .ok (.putfield 78, 3) ∧ decode cX11_init 126 = .ok (.aload_n 0, 1) ∧ decode cX11_init 127 = .ok (.iconst 0, 1) ∧ decode cX11_init 128 = .ok (.putfield 81, 3) ∧ decode cX11_init 131 = .ok (.aload_n 0, 1) ∧ decode cX11_init 132 = .ok (.new 84, 3) ∧ decode cX11_init 135 = .ok (.dup, 1) := by decide +kernel
theorem dX11_init_117 : decode cX11_init 117 = .ok (.aload_n 0, 1) := gd_X11_init_117.1
theorem dX11_init_118 : decode cX11_init 118 = .ok (.sipush 200, 3) := gd_X11_init_117.2.1
theorem dX11_init_121 : decode cX11_init 121 = .ok (.newarray .int, 2) := gd_X11_init_117.2.2.1
theorem dX11_init_123 : decode cX11_init 123 = .ok (.putfield 78, 3) := gd_X11_init_117.2.2.2.1
theorem dX11_init_126 : decode cX11_init 126 = .ok (.aload_n 0, 1) := gd_X11_init_117.2.2.2.2.1
theorem dX11_init_127 : decode cX11_init 127 = .ok (.iconst 0, 1) := gd_X11_init_117.2.2.2.2.2.1
theorem dX11_init_128 : decode cX11_init 128 = .ok (.putfield 81, 3) := gd_X11_init_117.2.2.2.2.2.2.1
theorem dX11_init_131 : decode cX11_init 131 = .ok (.aload_n 0, 1) := gd_X11_init_117.2.2.2.2.2.2.2.1
theorem dX11_init_132 : decode cX11_init 132 = .ok (.new 84, 3) := gd_X11_init_117.2.2.2.2.2.2.2.2.1
theorem dX11_init_135 : decode cX11_init 135 = .ok (.dup, 1) := gd_X11_init_117.2.2.2.2.2.2.2.2.2
theorem gd_X11_init_136 : decode cX11_init 136 = .ok (.invokespecial 86, 3) ∧ decode cX11_init 139 = .ok (.putfield 87, 3) ∧ decode cX11_init 142 = .ok (.aload_n 0, 1) ∧ decode cX11_init 143 = .ok (.new 91, 3) ∧ decode cX11_init 146 = .ok (.dup, 1) ∧ decode cX11_init 147 = .ok (.invokespecial 93, 3) ∧ decode cX11_init 150 = .ok (.putfield 94, 3) ∧ decode cX11_init 153 = .ok (.aload_n 0, 1) ∧ decode cX11_init 154 = .ok (.new 98, 3) ∧ decode cX11_init 157 = .ok (.dup, 1) := by decide +kernel
theorem dX11_init_136 : decode cX11_init 136 = .ok (.invokespecial 86, 3) := gd_X11_init_136.1
theorem dX11_init_139 : decode cX11_init 139 = .ok (.putfield 87, 3) := gd_X11_init_136.2.1
theorem dX11_init_142 : decode cX11_init 142 = .ok (.aload_n 0, 1) := gd_X11_init_136.2.2.1
theorem dX11_init_143 : decode cX11_init 143 = .ok (.new 91, 3) := gd_X11_init_136.2.2.2.1
theorem dX11_init_146 : decode cX11_init 146 = .ok (.dup, 1) := gd_X11_init_136.2.2.2.2.1
theorem dX11_init_147 : decode cX11_init 147 = .ok (.invokespecial 93, 3) := gd_X11_init_136.2.2.2.2.2.1
theorem dX11_init_150 : decode cX11_init 150 = .ok (.putfield 94, 3) := gd_X11_init_136.2.2.2.2.2.2.1
theorem dX11_init_153 : decode cX11_init 153 = .ok (.aload_n 0, 1) := gd_X11_init_136.2.2.2.2.2.2.2.1
theorem dX11_init_154 : decode cX11_init 154 = .ok (.new 98, 3) := gd_X11_init_136.2.2.2.2.2.2.2.2.1
theorem dX11_init_157 : decode cX11_init 157 = .ok (.dup, 1) := gd_X11_init_136.2.2.2.2.2.2.2.2.2
theorem gd_X11_init_158 : decode cX11_init 158 = .ok (.invokespecial 100, 3) ∧ decode cX11_init 161 = .ok (.putfield 101, 3) ∧ decode cX11_init 164 = .ok (.return_, 1) ∧ decode cX11_feed 0 = .ok (.aload_n 0, 1) ∧ decode cX11_feed 1 = .ok (.getfield 12, 3) ∧ decode cX11_feed 4 = .ok (.getfield 105, 3) ∧ decode cX11_feed 7 = .ok (.bipush 20, 2) ∧ decode cX11_feed 9 = .ok (.iadd, 1) ∧ decode cX11_feed 10 = .ok (.sipush 2000, 3) ∧ decode cX11_feed 13 = .ok (.if_icmp .le 6, 3) := by decide +kernel
theorem dX11_init_158 : decode cX11_init 158 = .ok (.invokespecial 100, 3) := gd_X11_init_158.1
theorem dX11_init_161 : decode cX11_init 161 = .ok (.putfield 101, 3) := gd_X11_init_158.2.1
theorem dX11_init_164 : decode cX11_init 164 = .ok (.return_, 1) := gd_X11_init_158.2.2.1
theorem dX11_feed_0 : decode cX11_feed 0 = .ok (.aload_n 0, 1) := gd_X11_init_158.2.2.2.1
theorem dX11_feed_1 : decode cX11_feed 1 = .ok (.getfield 12, 3) := gd_X11_init_158.2.2.2.2.1
theorem dX11_feed_4 : decode cX11_feed 4 = .ok (.getfield 105, 3) := gd_X11_init_158.2.2.2.2.2.1
theorem dX11_feed_7 : decode cX11_feed 7 = .ok (.bipush 20, 2) := gd_X11_init_158.2.2.2.2.2.2.1
theorem dX11_feed_9 : decode cX11_feed 9 = .ok (.iadd, 1) := gd_X11_init_158.2.2.2.2.2.2.2.1
theorem dX11_feed_10 : decode cX11_feed 10 = .ok (.sipush 2000, 3) := gd_X11_init_158.2.2.2.2.2.2.2.2.1
theorem dX11_feed_13 : decode cX11_feed 13 = .ok (.if_icmp .le 6, 3) := gd_X11_init_158.2.2.2.2.2.2.2.2.2
theorem gd_X11_feed_19 : decode cX11_feed 19 = .ok (.aload_n 0, 1) ∧ decode cX11_feed 20 = .ok (.getfield 12, 3) ∧ decode cX11_feed 23 = .ok (.iload_n 1, 1) ∧ decode cX11_feed 24 = .ok (.invokevirtual 108, 3) ∧ decode cX11_feed 27 = .ok (.aload_n 0, 1) ∧ decode cX11_feed 28 = .ok (.getfield 12, 3) ∧ decode cX11_feed 31 = .ok (.iload_n 2, 1) ∧ decode cX11_feed 32 = .ok (.invokevirtual 108, 3) ∧ decode cX11_feed 35 = .ok (.aload_n 0, 1) ∧ decode cX11_feed 36 = .ok (.getfield 12, 3) := by decide +kernel
theorem dX11_feed_19 : decode cX11_feed 19 = .ok (.aload_n 0, 1) := gd_X11_feed_19.1
theorem dX11_feed_20 : decode cX11_feed 20 = .ok (.getfield 12, 3) := gd_X11_feed_19.2.1
theorem dX11_feed_23 : decode cX11_feed 23 = .ok (.iload_n 1, 1) := gd_X11_feed_19.2.2.1
theorem dX11_feed_24 : decode cX11_feed 24 = .ok (.invokevirtual 108, 3) := gd_X11_feed_19.2.2.2.1
theorem dX11_feed_27 : decode cX11_feed 27 = .ok (.aload_n 0, 1) := gd_X11_feed_19.2.2.2.2.1
theorem dX11_feed_28 : decode cX11_feed 28 = .ok (.getfield 12, 3) := gd_X11_feed_19.2.2.2.2.2.1
theorem dX11_feed_31 : decode cX11_feed 31 = .ok (.iload_n 2, 1) := gd_X11_feed_19.2.2.2.2.2.2.1
theorem dX11_feed_32 : decode cX11_feed 32 = .ok (.invokevirtual 108, 3) := gd_X11_feed_19.2.2.2.2.2.2.2.1
theorem dX11_feed_35 : decode cX11_feed 35 = .ok (.aload_n 0, 1) := gd_X11_feed_19.2.2.2.2.2.2.2.2.1
theorem dX11_feed_36 : decode cX11_feed 36 = .ok (.getfield 12, 3) := gd_X11_feed_19.2.2.2.2.2.2.2.2.2
theorem gd_X11_feed_39 : decode cX11_feed 39 = .ok (.iload_n 3, 1) ∧ decode cX11_feed 40 = .ok (.invokevirtual 108, 3) ∧ decode cX11_feed 43 = .ok (.aload_n 0, 1) ∧ decode cX11_feed 44 = .ok (.getfield 12, 3) ∧ decode cX11_feed 47 = .ok (.iload 4, 2) ∧ decode cX11_feed 49 = .ok (.invokevirtual 108, 3) ∧ decode cX11_feed 52 = .ok (.aload_n 0, 1) ∧ decode cX11_feed 53 = .ok (.getfield 12, 3) ∧ decode cX11_feed 56 = .ok (.iload 5, 2) ∧ decode cX11_feed 58 = .ok (.invokevirtual 108, 3) := by decide +kernel
theorem dX11_feed_39 : decode cX11_feed 39 = .ok (.iload_n 3, 1) := gd_X11_feed_39.1
theorem dX11_feed_40 : decode cX11_feed 40 = .ok (.invokevirtual 108, 3) := gd_X11_feed_39.2.1
theorem dX11_feed_43 : decode cX11_feed 43 = .ok (.aload_n 0, 1) := gd_X11_feed_39.2.2.1
theorem dX11_feed_44 : decode cX11_feed 44 = .ok (.getfield 12, 3) := gd_X11_feed_39.2.2.2.1
theorem dX11_feed_47 : decode cX11_feed 47 = .ok (.iload 4, 2) := gd_X11_feed_39.2.2.2.2.1
theorem dX11_feed_49 : decode cX11_feed 49 = .ok (.invokevirtual 108, 3) := gd_X11_feed_39.2.2.2.2.2.1
theorem dX11_feed_52 : decode cX11_feed 52 = .ok (.aload_n 0, 1) := gd_X11_feed_39.2.2.2.2.2.2.1
theorem dX11_feed_53 : decode cX11_feed 53 = .ok (.getfield 12, 3) := gd_X11_feed_39.2.2.2.2.2.2.2.1
theorem dX11_feed_56 : decode cX11_feed 56 = .ok (.iload 5, 2) := gd_X11_feed_39.2.2.2.2.2.2.2.2.1
theorem dX11_feed_58 : decode cX11_feed 58 = .ok (.invokevirtual 108, 3) := gd_X11_feed_39.2.2.2.2.2.2.2.2.2
theorem gd_X11_feed_61 : decode cX11_feed 61 = .ok (.aload_n 0, 1) ∧ decode cX11_feed 62 = .ok (.getfield 12, 3) ∧ decode cX11_feed 65 = .ok (.getfield 105, 3) ∧ decode cX11_feed 68 = .ok (.ireturn, 1) ∧ decode cX11_end 0 = .ok (.iload_n 1, 1) ∧ decode cX11_end 1 = .ok (.ifCond .lt 14, 3) ∧ decode cX11_end 4 = .ok (.iload_n 1, 1) ∧ decode cX11_end 5 = .ok (.aload_n 0, 1) ∧ decode cX11_end 6 = .ok (.getfield 12, 3) ∧ decode cX11_end 9 = .ok (.getfield 105, 3) := by decide +kernel
theorem dX11_feed_61 : decode cX11_feed 61 = .ok (.aload_n 0, 1) := gd_X11_feed_61.1
theorem dX11_feed_62 : decode cX11_feed 62 = .ok (.getfield 12, 3) := gd_X11_feed_61.2.1
theorem dX11_feed_65 : decode cX11_feed 65 = .ok (.getfield 105, 3) := gd_X11_feed_61.2.2.1
theorem dX11_feed_68 : decode cX11_feed 68 = .ok (.ireturn, 1) := gd_X11_feed_61.2.2.2.1
theorem dX11_end_0 : decode cX11_end 0 = .ok (.iload_n 1, 1) := gd_X11_feed_61.2.2.2.2.1
theorem dX11_end_1 : decode cX11_end 1 = .ok (.ifCond .lt 14, 3) := gd_X11_feed_61.2.2.2.2.2.1
theorem dX11_end_4 : decode cX11_end 4 = .ok (.iload_n 1, 1) := gd_X11_feed_61.2.2.2.2.2.2.1
theorem dX11_end_5 : decode cX11_end 5 = .ok (.aload_n 0, 1) := gd_X11_feed_61.2.2.2.2.2.2.2.1
theorem dX11_end_6 : decode cX11_end 6 = .ok (.getfield 12, 3) := gd_X11_feed_61.2.2.2.2.2.2.2.2.1
theorem dX11_end_9 : decode cX11_end 9 = .ok (.getfield 105, 3) := gd_X11_feed_61.2.2.2.2.2.2.2.2.2
theorem gd_X11_end_12 : decode cX11_end 12 = .ok (.if_icmp .le 5, 3) ∧ decode cX11_end 15 = .ok (.iconst (-1), 1) ∧ decode cX11_end 16 = .ok (.ireturn, 1) ∧ decode cX11_end 17 = .ok (.aload_n 0, 1) ∧ decode cX11_end 18 = .ok (.getfield 12, 3) ∧ decode cX11_end 21 = .ok (.iload_n 1, 1) ∧ decode cX11_end 22 = .ok (.putfield 105, 3) ∧ decode cX11_end 25 = .ok (.iload_n 1, 1) ∧ decode cX11_end 26 = .ok (.ireturn, 1) ∧ decode cX11_reform 0 = .ok (.aload_n 0, 1) := by decide +kernel
theorem dX11_end_12 : decode cX11_end 12 = .ok (.if_icmp .le 5, 3) := gd_X11_end_12.1
theorem dX11_end_15 : decode cX11_end 15 = .ok (.iconst (-1), 1) := gd_X11_end_12.2.1
theorem dX11_end_16 : decode cX11_end 16 = .ok (.ireturn, 1) := gd_X11_end_12.2.2.1
theorem dX11_end_17 : decode cX11_end 17 = .ok (.aload_n 0, 1) := gd_X11_end_12.2.2.2.1
theorem dX11_end_18 : decode cX11_end 18 = .ok (.getfield 12, 3) := gd_X11_end_12.2.2.2.2.1
theorem dX11_end_21 : decode cX11_end 21 = .ok (.iload_n 1, 1) := gd_X11_end_12.2.2.2.2.2.1
theorem dX11_end_22 : decode cX11_end 22 = .ok (.putfield 105, 3) := gd_X11_end_12.2.2.2.2.2.2.1
theorem dX11_end_25 : decode cX11_end 25 = .ok (.iload_n 1, 1) := gd_X11_end_12.2.2.2.2.2.2.2.1
theorem dX11_end_26 : decode cX11_end 26 = .ok (.ireturn, 1) := gd_X11_end_12.2.2.2.2.2.2.2.2.1
theorem dX11_reform_0 : decode cX11_reform 0 = .ok (.aload_n 0, 1) := gd_X11_end_12.2.2.2.2.2.2.2.2.2
theorem gd_X11_reform_1 : decode cX11_reform 1 = .ok (.getfield 12, 3) ∧ decode cX11_reform 4 = .ok (.invokevirtual 112, 3) ∧ decode cX11_reform 7 = .ok (.istore_n 2, 1) ∧ decode cX11_reform 8 = .ok (.iload_n 1, 1) ∧ decode cX11_reform 9 = .ok (.aload_n 0, 1) ∧ decode cX11_reform 10 = .ok (.getfield 26, 3) ∧ decode cX11_reform 13 = .ok (.if_icmp .le 9, 3) ∧ decode cX11_reform 16 = .ok (.iload_n 1, 1) ∧ decode cX11_reform 17 = .ok (.ldc 116, 2) ∧ decode cX11_reform 19 = .ok (.if_icmp .le 6, 3) := by decide +kernel
theorem dX11_reform_1 : decode cX11_reform 1 = .ok (.getfield 12, 3) := gd_X11_reform_1.1
theorem dX11_reform_4 : decode cX11_reform 4 = .ok (.invokevirtual 112, 3) := gd_X11_reform_1.2.1
theorem dX11_reform_7 : decode cX11_reform 7 = .ok (.istore_n 2, 1) := gd_X11_reform_1.2.2.1
theorem dX11_reform_8 : decode cX11_reform 8 = .ok (.iload_n 1, 1) := gd_X11_reform_1.2.2.2.1
theorem dX11_reform_9 : decode cX11_reform 9 = .ok (.aload_n 0, 1) := gd_X11_reform_1.2.2.2.2.1
theorem dX11_reform_10 : decode cX11_reform 10 = .ok (.getfield 26, 3) := gd_X11_reform_1.2.2.2.2.2.1
theorem dX11_reform_13 : decode cX11_reform 13 = .ok (.if_icmp .le 9, 3) := gd_X11_reform_1.2.2.2.2.2.2.1
theorem dX11_reform_16 : decode cX11_reform 16 = .ok (.iload_n 1, 1) := gd_X11_reform_1.2.2.2.2.2.2.2.1
theorem dX11_reform_17 : decode cX11_reform 17 = .ok (.ldc 116, 2) := gd_X11_reform_1.2.2.2.2.2.2.2.2.1
theorem dX11_reform_19 : decode cX11_reform 19 = .ok (.if_icmp .le 6, 3) := gd_X11_reform_1.2.2.2.2.2.2.2.2.2
theorem gd_X11_reform_22 : decode cX11_reform 22 = .ok (.bipush (-2), 2) ∧ decode cX11_reform 24 = .ok (.ireturn, 1) ∧ decode cX11_reform 25 = .ok (.aload_n 0, 1) ∧ decode cX11_reform 26 = .ok (.getfield 30, 3) ∧ decode cX11_reform 29 = .ok (.iload_n 1, 1) ∧ decode cX11_reform 30 = .ok (.invokevirtual 117, 3) ∧ decode cX11_reform 33 = .ok (.aload_n 0, 1) ∧ decode cX11_reform 34 = .ok (.getfield 37, 3) ∧ decode cX11_reform 37 = .ok (.aload_n 0, 1) ∧ decode cX11_reform 38 = .ok (.getfield 12, 3) := by decide +kernel
theorem dX11_reform_22 : decode cX11_reform 22 = .ok (.bipush (-2), 2) := gd_X11_reform_22.1
theorem dX11_reform_24 : decode cX11_reform 24 = .ok (.ireturn, 1) := gd_X11_reform_22.2.1
theorem dX11_reform_25 : decode cX11_reform 25 = .ok (.aload_n 0, 1) := gd_X11_reform_22.2.2.1
theorem dX11_reform_26 : decode cX11_reform 26 = .ok (.getfield 30, 3) := gd_X11_reform_22.2.2.2.1
theorem dX11_reform_29 : decode cX11_reform 29 = .ok (.iload_n 1, 1) := gd_X11_reform_22.2.2.2.2.1
theorem dX11_reform_30 : decode cX11_reform 30 = .ok (.invokevirtual 117, 3) := gd_X11_reform_22.2.2.2.2.2.1
theorem dX11_reform_33 : decode cX11_reform 33 = .ok (.aload_n 0, 1) := gd_X11_reform_22.2.2.2.2.2.2.1
theorem dX11_reform_34 : decode cX11_reform 34 = .ok (.getfield 37, 3) := gd_X11_reform_22.2.2.2.2.2.2.2.1
theorem dX11_reform_37 : decode cX11_reform 37 = .ok (.aload_n 0, 1) := gd_X11_reform_22.2.2.2.2.2.2.2.2.1
theorem dX11_reform_38 : decode cX11_reform 38 = .ok (.getfield 12, 3) := gd_X11_reform_22.2.2.2.2.2.2.2.2.2
theorem gd_X11_reform_41 : decode cX11_reform 41 = .ok (.getfield 120, 3) ∧ decode cX11_reform 44 = .ok (.iload_n 2, 1) ∧ decode cX11_reform 45 = .ok (.aload_n 0, 1) ∧ decode cX11_reform 46 = .ok (.getfield 30, 3) ∧ decode cX11_reform 49 = .ok (.invokevirtual 124, 3) ∧ decode cX11_reform 52 = .ok (.aload_n 0, 1) ∧ decode cX11_reform 53 = .ok (.getfield 37, 3) ∧ decode cX11_reform 56 = .ok (.getfield 128, 3) ∧ decode cX11_reform 59 = .ok (.ifCond .eq 5, 3) ∧ decode cX11_reform 64 = .ok (.aload_n 0, 1) := by decide +kernel
theorem dX11_reform_41 : decode cX11_reform 41 = .ok (.getfield 120, 3) := gd_X11_reform_41.1
theorem dX11_reform_44 : decode cX11_reform 44 = .ok (.iload_n 2, 1) := gd_X11_reform_41.2.1
theorem dX11_reform_45 : decode cX11_reform 45 = .ok (.aload_n 0, 1) := gd_X11_reform_41.2.2.1
theorem dX11_reform_46 : decode cX11_reform 46 = .ok (.getfield 30, 3) := gd_X11_reform_41.2.2.2.1
theorem dX11_reform_49 : decode cX11_reform 49 = .ok (.invokevirtual 124, 3) := gd_X11_reform_41.2.2.2.2.1
theorem dX11_reform_52 : decode cX11_reform 52 = .ok (.aload_n 0, 1) := gd_X11_reform_41.2.2.2.2.2.1
theorem dX11_reform_53 : decode cX11_reform 53 = .ok (.getfield 37, 3) := gd_X11_reform_41.2.2.2.2.2.2.1
theorem dX11_reform_56 : decode cX11_reform 56 = .ok (.getfield 128, 3) := gd_X11_reform_41.2.2.2.2.2.2.2.1
theorem dX11_reform_59 : decode cX11_reform 59 = .ok (.ifCond .eq 5, 3) := gd_X11_reform_41.2.2.2.2.2.2.2.2.1
theorem dX11_reform_64 : decode cX11_reform 64 = .ok (.aload_n 0, 1) := gd_X11_reform_41.2.2.2.2.2.2.2.2.2
theorem gd_X11_reform_65 : decode cX11_reform 65 = .ok (.getfield 22, 3) ∧ decode cX11_reform 68 = .ok (.bipush 6, 2) ∧ decode cX11_reform 70 = .ok (.if_icmp .lt 6, 3) ∧ decode cX11_reform 76 = .ok (.aload_n 0, 1) ∧ decode cX11_reform 77 = .ok (.getfield 44, 3) ∧ decode cX11_reform 80 = .ok (.aload_n 0, 1) ∧ decode cX11_reform 81 = .ok (.getfield 30, 3) ∧ decode cX11_reform 84 = .ok (.invokevirtual 131, 3) ∧ decode cX11_reform 87 = .ok (.aload_n 0, 1) ∧ decode cX11_reform 88 = .ok (.getfield 18, 3) := by decide +kernel
theorem dX11_reform_65 : decode cX11_reform 65 = .ok (.getfield 22, 3) := gd_X11_reform_65.1
theorem dX11_reform_68 : decode cX11_reform 68 = .ok (.bipush 6, 2) := gd_X11_reform_65.2.1
theorem dX11_reform_70 : decode cX11_reform 70 = .ok (.if_icmp .lt 6, 3) := gd_X11_reform_65.2.2.1
theorem dX11_reform_76 : decode cX11_reform 76 = .ok (.aload_n 0, 1) := gd_X11_reform_65.2.2.2.1
theorem dX11_reform_77 : decode cX11_reform 77 = .ok (.getfield 44, 3) := gd_X11_reform_65.2.2.2.2.1
theorem dX11_reform_80 : decode cX11_reform 80 = .ok (.aload_n 0, 1) := gd_X11_reform_65.2.2.2.2.2.1
theorem dX11_reform_81 : decode cX11_reform 81 = .ok (.getfield 30, 3) := gd_X11_reform_65.2.2.2.2.2.2.1
theorem dX11_reform_84 : decode cX11_reform 84 = .ok (.invokevirtual 131, 3) := gd_X11_reform_65.2.2.2.2.2.2.2.1
theorem dX11_reform_87 : decode cX11_reform 87 = .ok (.aload_n 0, 1) := gd_X11_reform_65.2.2.2.2.2.2.2.2.1
theorem dX11_reform_88 : decode cX11_reform 88 = .ok (.getfield 18, 3) := gd_X11_reform_65.2.2.2.2.2.2.2.2.2
theorem gd_X11_reform_91 : decode cX11_reform 91 = .ok (.aload_n 0, 1) ∧ decode cX11_reform 92 = .ok (.getfield 22, 3) ∧ decode cX11_reform 95 = .ok (.aload_n 0, 1) ∧ decode cX11_reform 96 = .ok (.getfield 30, 3) ∧ decode cX11_reform 99 = .ok (.aastore, 1) ∧ decode cX11_reform 100 = .ok (.aload_n 0, 1) ∧ decode cX11_reform 101 = .ok (.new 16, 3) ∧ decode cX11_reform 104 = .ok (.dup, 1) ∧ decode cX11_reform 105 = .ok (.invokespecial 29, 3) ∧ decode cX11_reform 108 = .ok (.putfield 30, 3) := by decide +kernel
theorem dX11_reform_91 : decode cX11_reform 91 = .ok (.aload_n 0, 1) := gd_X11_reform_91.1
theorem dX11_reform_92 : decode cX11_reform 92 = .ok (.getfield 22, 3) := gd_X11_reform_91.2.1
theorem dX11_reform_95 : decode cX11_reform 95 = .ok (.aload_n 0, 1) := gd_X11_reform_91.2.2.1
theorem dX11_reform_96 : decode cX11_reform 96 = .ok (.getfield 30, 3) := gd_X11_reform_91.2.2.2.1
theorem dX11_reform_99 : decode cX11_reform 99 = .ok (.aastore, 1) := gd_X11_reform_91.2.2.2.2.1
theorem dX11_reform_100 : decode cX11_reform 100 = .ok (.aload_n 0, 1) := gd_X11_reform_91.2.2.2.2.2.1
theorem dX11_reform_101 : decode cX11_reform 101 = .ok (.new 16, 3) := gd_X11_reform_91.2.2.2.2.2.2.1
theorem dX11_reform_104 : decode cX11_reform 104 = .ok (.dup, 1) := gd_X11_reform_91.2.2.2.2.2.2.2.1
theorem dX11_reform_105 : decode cX11_reform 105 = .ok (.invokespecial 29, 3) := gd_X11_reform_91.2.2.2.2.2.2.2.2.1
theorem dX11_reform_108 : decode cX11_reform 108 = .ok (.putfield 30, 3) := gd_X11_reform_91.2.2.2.2.2.2.2.2.2
theorem gd_X11_reform_111 : decode cX11_reform 111 = .ok (.aload_n 0, 1) ∧ decode cX11_reform 112 = .ok (.iload_n 1, 1) ∧ decode cX11_reform 113 = .ok (.putfield 26, 3) ∧ decode cX11_reform 116 = .ok (.aload_n 0, 1) ∧ decode cX11_reform 117 = .ok (.dup, 1) ∧ decode cX11_reform 118 = .ok (.getfield 22, 3) ∧ decode cX11_reform 121 = .ok (.iconst 1, 1) ∧ decode cX11_reform 122 = .ok (.iadd, 1) ∧ decode cX11_reform 123 = .ok (.putfield 22, 3) ∧ decode cX11_reform 126 = .ok (.aload_n 0, 1) := by decide +kernel
theorem dX11_reform_111 : decode cX11_reform 111 = .ok (.aload_n 0, 1) := gd_X11_reform_111.1
theorem dX11_reform_112 : decode cX11_reform 112 = .ok (.iload_n 1, 1) := gd_X11_reform_111.2.1
theorem dX11_reform_113 : decode cX11_reform 113 = .ok (.putfield 26, 3) := gd_X11_reform_111.2.2.1
theorem dX11_reform_116 : decode cX11_reform 116 = .ok (.aload_n 0, 1) := gd_X11_reform_111.2.2.2.1
theorem dX11_reform_117 : decode cX11_reform 117 = .ok (.dup, 1) := gd_X11_reform_111.2.2.2.2.1
theorem dX11_reform_118 : decode cX11_reform 118 = .ok (.getfield 22, 3) := gd_X11_reform_111.2.2.2.2.2.1
theorem dX11_reform_121 : decode cX11_reform 121 = .ok (.iconst 1, 1) := gd_X11_reform_111.2.2.2.2.2.2.1
theorem dX11_reform_122 : decode cX11_reform 122 = .ok (.iadd, 1) := gd_X11_reform_111.2.2.2.2.2.2.2.1
theorem dX11_reform_123 : decode cX11_reform 123 = .ok (.putfield 22, 3) := gd_X11_reform_111.2.2.2.2.2.2.2.2.1
theorem dX11_reform_126 : decode cX11_reform 126 = .ok (.aload_n 0, 1) := gd_X11_reform_111.2.2.2.2.2.2.2.2.2
theorem gd_X11_reform_127 : decode cX11_reform 127 = .ok (.getfield 22, 3) ∧ decode cX11_reform 130 = .ok (.iconst 1, 1) ∧ decode cX11_reform 131 = .ok (.isub, 1) ∧ decode cX11_reform 132 = .ok (.ireturn, 1) ∧ decode cX11_fault 0 = .ok (.iload_n 1, 1) ∧ decode cX11_fault 1 = .ok (.lookupswitch 43 #[(0, 27), (1, 35)], 27) ∧ decode cX11_fault 28 = .ok (.aload_n 0, 1) ∧ decode cX11_fault 29 = .ok (.getfield 37, 3) ∧ decode cX11_fault 32 = .ok (.getfield 128, 3) ∧ decode cX11_fault 35 = .ok (.ireturn, 1) := by decide +kernel
theorem dX11_reform_127 : decode cX11_reform 127 = .ok (.getfield 22, 3) := gd_X11_reform_127.1
theorem dX11_reform_130 : decode cX11_reform 130 = .ok (.iconst 1, 1) := gd_X11_reform_127.2.1
theorem dX11_reform_131 : decode cX11_reform 131 = .ok (.isub, 1) := gd_X11_reform_127.2.2.1
theorem dX11_reform_132 : decode cX11_reform 132 = .ok (.ireturn, 1) := gd_X11_reform_127.2.2.2.1
theorem dX11_fault_0 : decode cX11_fault 0 = .ok (.iload_n 1, 1) := gd_X11_reform_127.2.2.2.2.1
theorem dX11_fault_1 : decode cX11_fault 1 = .ok (.lookupswitch 43 #[(0, 27), (1, 35)], 27) := gd_X11_reform_127.2.2.2.2.2.1
theorem dX11_fault_28 : decode cX11_fault 28 = .ok (.aload_n 0, 1) := gd_X11_reform_127.2.2.2.2.2.2.1
theorem dX11_fault_29 : decode cX11_fault 29 = .ok (.getfield 37, 3) := gd_X11_reform_127.2.2.2.2.2.2.2.1
theorem dX11_fault_32 : decode cX11_fault 32 = .ok (.getfield 128, 3) := gd_X11_reform_127.2.2.2.2.2.2.2.2.1
theorem dX11_fault_35 : decode cX11_fault 35 = .ok (.ireturn, 1) := gd_X11_reform_127.2.2.2.2.2.2.2.2.2
theorem gd_X11_fault_36 : decode cX11_fault 36 = .ok (.aload_n 0, 1) ∧ decode cX11_fault 37 = .ok (.getfield 37, 3) ∧ decode cX11_fault 40 = .ok (.getfield 135, 3) ∧ decode cX11_fault 43 = .ok (.ireturn, 1) ∧ decode cX11_fault 44 = .ok (.iconst (-1), 1) ∧ decode cX11_fault 45 = .ok (.ireturn, 1) ∧ decode cX11_about 0 = .ok (.aload_n 0, 1) ∧ decode cX11_about 1 = .ok (.iload_n 1, 1) ∧ decode cX11_about 2 = .ok (.invokevirtual 138, 3) ∧ decode cX11_about 5 = .ok (.astore_n 3, 1) := by decide +kernel
theorem dX11_fault_36 : decode cX11_fault 36 = .ok (.aload_n 0, 1) := gd_X11_fault_36.1
theorem dX11_fault_37 : decode cX11_fault 37 = .ok (.getfield 37, 3) := gd_X11_fault_36.2.1
theorem dX11_fault_40 : decode cX11_fault 40 = .ok (.getfield 135, 3) := gd_X11_fault_36.2.2.1
theorem dX11_fault_43 : decode cX11_fault 43 = .ok (.ireturn, 1) := gd_X11_fault_36.2.2.2.1
theorem dX11_fault_44 : decode cX11_fault 44 = .ok (.iconst (-1), 1) := gd_X11_fault_36.2.2.2.2.1
theorem dX11_fault_45 : decode cX11_fault 45 = .ok (.ireturn, 1) := gd_X11_fault_36.2.2.2.2.2.1
theorem dX11_about_0 : decode cX11_about 0 = .ok (.aload_n 0, 1) := gd_X11_fault_36.2.2.2.2.2.2.1
theorem dX11_about_1 : decode cX11_about 1 = .ok (.iload_n 1, 1) := gd_X11_fault_36.2.2.2.2.2.2.2.1
theorem dX11_about_2 : decode cX11_about 2 = .ok (.invokevirtual 138, 3) := gd_X11_fault_36.2.2.2.2.2.2.2.2.1
theorem dX11_about_5 : decode cX11_about 5 = .ok (.astore_n 3, 1) := gd_X11_fault_36.2.2.2.2.2.2.2.2.2
theorem gd_X11_about_6 : decode cX11_about 6 = .ok (.aload_n 3, 1) ∧ decode cX11_about 7 = .ok (.ifnonnull 5, 3) ∧ decode cX11_about 10 = .ok (.iconst (-1), 1) ∧ decode cX11_about 11 = .ok (.ireturn, 1) ∧ decode cX11_stage 0 = .ok (.iload_n 1, 1) ∧ decode cX11_stage 1 = .ok (.ifCond .lt 9, 3) ∧ decode cX11_stage 4 = .ok (.iload_n 1, 1) ∧ decode cX11_stage 5 = .ok (.ldc 116, 2) ∧ decode cX11_stage 7 = .ok (.if_icmp .le 6, 3) ∧ decode cX11_stage 10 = .ok (.bipush (-2), 2) := by decide +kernel
theorem dX11_about_6 : decode cX11_about 6 = .ok (.aload_n 3, 1) := gd_X11_about_6.1
theorem dX11_about_7 : decode cX11_about 7 = .ok (.ifnonnull 5, 3) := gd_X11_about_6.2.1
theorem dX11_about_10 : decode cX11_about 10 = .ok (.iconst (-1), 1) := gd_X11_about_6.2.2.1
theorem dX11_about_11 : decode cX11_about 11 = .ok (.ireturn, 1) := gd_X11_about_6.2.2.2.1
theorem dX11_stage_0 : decode cX11_stage 0 = .ok (.iload_n 1, 1) := gd_X11_about_6.2.2.2.2.1
theorem dX11_stage_1 : decode cX11_stage 1 = .ok (.ifCond .lt 9, 3) := gd_X11_about_6.2.2.2.2.2.1
theorem dX11_stage_4 : decode cX11_stage 4 = .ok (.iload_n 1, 1) := gd_X11_about_6.2.2.2.2.2.2.1
theorem dX11_stage_5 : decode cX11_stage 5 = .ok (.ldc 116, 2) := gd_X11_about_6.2.2.2.2.2.2.2.1
theorem dX11_stage_7 : decode cX11_stage 7 = .ok (.if_icmp .le 6, 3) := gd_X11_about_6.2.2.2.2.2.2.2.2.1
theorem dX11_stage_10 : decode cX11_stage 10 = .ok (.bipush (-2), 2) := gd_X11_about_6.2.2.2.2.2.2.2.2.2
theorem gd_X11_stage_12 : decode cX11_stage 12 = .ok (.ireturn, 1) ∧ decode cX11_stage 13 = .ok (.iconst 0, 1) ∧ decode cX11_stage 14 = .ok (.istore_n 2, 1) ∧ decode cX11_stage 15 = .ok (.iconst 0, 1) ∧ decode cX11_stage 16 = .ok (.istore_n 3, 1) ∧ decode cX11_stage 17 = .ok (.iload_n 3, 1) ∧ decode cX11_stage 18 = .ok (.aload_n 0, 1) ∧ decode cX11_stage 19 = .ok (.getfield 22, 3) ∧ decode cX11_stage 22 = .ok (.if_icmp .ge 34, 3) ∧ decode cX11_stage 56 = .ok (.iload_n 2, 1) := by decide +kernel
theorem dX11_stage_12 : decode cX11_stage 12 = .ok (.ireturn, 1) := gd_X11_stage_12.1
theorem dX11_stage_13 : decode cX11_stage 13 = .ok (.iconst 0, 1) := gd_X11_stage_12.2.1
theorem dX11_stage_14 : decode cX11_stage 14 = .ok (.istore_n 2, 1) := gd_X11_stage_12.2.2.1
theorem dX11_stage_15 : decode cX11_stage 15 = .ok (.iconst 0, 1) := gd_X11_stage_12.2.2.2.1
theorem dX11_stage_16 : decode cX11_stage 16 = .ok (.istore_n 3, 1) := gd_X11_stage_12.2.2.2.2.1
theorem dX11_stage_17 : decode cX11_stage 17 = .ok (.iload_n 3, 1) := gd_X11_stage_12.2.2.2.2.2.1
theorem dX11_stage_18 : decode cX11_stage 18 = .ok (.aload_n 0, 1) := gd_X11_stage_12.2.2.2.2.2.2.1
theorem dX11_stage_19 : decode cX11_stage 19 = .ok (.getfield 22, 3) := gd_X11_stage_12.2.2.2.2.2.2.2.1
theorem dX11_stage_22 : decode cX11_stage 22 = .ok (.if_icmp .ge 34, 3) := gd_X11_stage_12.2.2.2.2.2.2.2.2.1
theorem dX11_stage_56 : decode cX11_stage 56 = .ok (.iload_n 2, 1) := gd_X11_stage_12.2.2.2.2.2.2.2.2.2
theorem gd_X11_stage_57 : decode cX11_stage 57 = .ok (.ireturn, 1) ∧ decode cX11_turn 0 = .ok (.aload_n 0, 1) ∧ decode cX11_turn 1 = .ok (.getfield 12, 3) ∧ decode cX11_turn 4 = .ok (.invokevirtual 112, 3) ∧ decode cX11_turn 7 = .ok (.istore_n 3, 1) ∧ decode cX11_turn 8 = .ok (.aload_n 0, 1) ∧ decode cX11_turn 9 = .ok (.iload_n 1, 1) ∧ decode cX11_turn 10 = .ok (.iload_n 2, 1) ∧ decode cX11_turn 11 = .ok (.invokevirtual 160, 3) ∧ decode cX11_turn 14 = .ok (.ifCond .eq 14, 3) := by decide +kernel
theorem dX11_stage_57 : decode cX11_stage 57 = .ok (.ireturn, 1) := gd_X11_stage_57.1
theorem dX11_turn_0 : decode cX11_turn 0 = .ok (.aload_n 0, 1) := gd_X11_stage_57.2.1
theorem dX11_turn_1 : decode cX11_turn 1 = .ok (.getfield 12, 3) := gd_X11_stage_57.2.2.1
theorem dX11_turn_4 : decode cX11_turn 4 = .ok (.invokevirtual 112, 3) := gd_X11_stage_57.2.2.2.1
theorem dX11_turn_7 : decode cX11_turn 7 = .ok (.istore_n 3, 1) := gd_X11_stage_57.2.2.2.2.1
theorem dX11_turn_8 : decode cX11_turn 8 = .ok (.aload_n 0, 1) := gd_X11_stage_57.2.2.2.2.2.1
theorem dX11_turn_9 : decode cX11_turn 9 = .ok (.iload_n 1, 1) := gd_X11_stage_57.2.2.2.2.2.2.1
theorem dX11_turn_10 : decode cX11_turn 10 = .ok (.iload_n 2, 1) := gd_X11_stage_57.2.2.2.2.2.2.2.1
theorem dX11_turn_11 : decode cX11_turn 11 = .ok (.invokevirtual 160, 3) := gd_X11_stage_57.2.2.2.2.2.2.2.2.1
theorem dX11_turn_14 : decode cX11_turn 14 = .ok (.ifCond .eq 14, 3) := gd_X11_stage_57.2.2.2.2.2.2.2.2.2
theorem gd_X11_turn_17 : decode cX11_turn 17 = .ok (.aload_n 0, 1) ∧ decode cX11_turn 18 = .ok (.getfield 12, 3) ∧ decode cX11_turn 21 = .ok (.iload_n 3, 1) ∧ decode cX11_turn 22 = .ok (.invokevirtual 164, 3) ∧ decode cX11_turn 25 = .ok (.ifCond .ne 6, 3) ∧ decode cX11_turn 28 = .ok (.bipush (-2), 2) ∧ decode cX11_turn 30 = .ok (.ireturn, 1) ∧ decode cX11_form 0 = .ok (.aload_n 0, 1) ∧ decode cX11_form 1 = .ok (.getfield 53, 3) ∧ decode cX11_form 4 = .ok (.iload_n 1, 1) := by decide +kernel
theorem dX11_turn_17 : decode cX11_turn 17 = .ok (.aload_n 0, 1) := gd_X11_turn_17.1
theorem dX11_turn_18 : decode cX11_turn 18 = .ok (.getfield 12, 3) := gd_X11_turn_17.2.1
theorem dX11_turn_21 : decode cX11_turn 21 = .ok (.iload_n 3, 1) := gd_X11_turn_17.2.2.1
theorem dX11_turn_22 : decode cX11_turn 22 = .ok (.invokevirtual 164, 3) := gd_X11_turn_17.2.2.2.1
theorem dX11_turn_25 : decode cX11_turn 25 = .ok (.ifCond .ne 6, 3) := gd_X11_turn_17.2.2.2.2.1
theorem dX11_turn_28 : decode cX11_turn 28 = .ok (.bipush (-2), 2) := gd_X11_turn_17.2.2.2.2.2.1
theorem dX11_turn_30 : decode cX11_turn 30 = .ok (.ireturn, 1) := gd_X11_turn_17.2.2.2.2.2.2.1
theorem dX11_form_0 : decode cX11_form 0 = .ok (.aload_n 0, 1) := gd_X11_turn_17.2.2.2.2.2.2.2.1
theorem dX11_form_1 : decode cX11_form 1 = .ok (.getfield 53, 3) := gd_X11_turn_17.2.2.2.2.2.2.2.2.1
theorem dX11_form_4 : decode cX11_form 4 = .ok (.iload_n 1, 1) := gd_X11_turn_17.2.2.2.2.2.2.2.2.2
theorem gd_X11_form_5 : decode cX11_form 5 = .ok (.iload_n 2, 1) ∧ decode cX11_form 6 = .ok (.invokevirtual 176, 3) ∧ decode cX11_form 9 = .ok (.ireturn, 1) ∧ decode cX11_partings 0 = .ok (.aload_n 0, 1) ∧ decode cX11_partings 1 = .ok (.getfield 12, 3) ∧ decode cX11_partings 4 = .ok (.invokevirtual 112, 3) ∧ decode cX11_partings 7 = .ok (.istore_n 2, 1) ∧ decode cX11_partings 8 = .ok (.aload_n 0, 1) ∧ decode cX11_partings 9 = .ok (.iload_n 1, 1) ∧ decode cX11_partings 10 = .ok (.invokevirtual 138, 3) := by decide +kernel
theorem dX11_form_5 : decode cX11_form 5 = .ok (.iload_n 2, 1) := gd_X11_form_5.1
theorem dX11_form_6 : decode cX11_form 6 = .ok (.invokevirtual 176, 3) := gd_X11_form_5.2.1
theorem dX11_form_9 : decode cX11_form 9 = .ok (.ireturn, 1) := gd_X11_form_5.2.2.1
theorem dX11_partings_0 : decode cX11_partings 0 = .ok (.aload_n 0, 1) := gd_X11_form_5.2.2.2.1
theorem dX11_partings_1 : decode cX11_partings 1 = .ok (.getfield 12, 3) := gd_X11_form_5.2.2.2.2.1
theorem dX11_partings_4 : decode cX11_partings 4 = .ok (.invokevirtual 112, 3) := gd_X11_form_5.2.2.2.2.2.1
theorem dX11_partings_7 : decode cX11_partings 7 = .ok (.istore_n 2, 1) := gd_X11_form_5.2.2.2.2.2.2.1
theorem dX11_partings_8 : decode cX11_partings 8 = .ok (.aload_n 0, 1) := gd_X11_form_5.2.2.2.2.2.2.2.1
theorem dX11_partings_9 : decode cX11_partings 9 = .ok (.iload_n 1, 1) := gd_X11_form_5.2.2.2.2.2.2.2.2.1
theorem dX11_partings_10 : decode cX11_partings 10 = .ok (.invokevirtual 138, 3) := gd_X11_form_5.2.2.2.2.2.2.2.2.2
