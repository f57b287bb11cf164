theorem gd_X12_same_0 : decode cX12_same 0 = .ok (.aload_n 1, 1) ∧ decode cX12_same 1 = .ok (.iload_n 2, 1) ∧ decode cX12_same 2 = .ok (.iaload, 1) ∧ decode cX12_same 3 = .ok (.aload_n 1, 1) ∧ decode cX12_same 4 = .ok (.iload_n 3, 1) ∧ decode cX12_same 5 = .ok (.iaload, 1) ∧ decode cX12_same 6 = .ok (.if_icmp .eq 5, 3) ∧ decode cX12_same 9 = .ok (.iconst 0, 1) ∧ decode cX12_same 10 = .ok (.ireturn, 1) ∧ decode cX12_same 11 = .ok (.iconst 0, 1) := by decide +kernel
theorem dX12_same_0 : decode cX12_same 0 = .ok (.aload_n 1, 1) := gd_X12_same_0.1
theorem dX12_same_1 : decode cX12_same 1 = .ok (.iload_n 2, 1) := gd_X12_same_0.2.1
theorem dX12_same_2 : decode cX12_same 2 = .ok (.iaload, 1) := gd_X12_same_0.2.2.1
theorem dX12_same_3 : decode cX12_same 3 = .ok (.aload_n 1, 1) := gd_X12_same_0.2.2.2.1
theorem dX12_same_4 : decode cX12_same 4 = .ok (.iload_n 3, 1) := gd_X12_same_0.2.2.2.2.1
theorem dX12_same_5 : decode cX12_same 5 = .ok (.iaload, 1) := gd_X12_same_0.2.2.2.2.2.1
theorem dX12_same_6 : decode cX12_same 6 = .ok (.if_icmp .eq 5, 3) := gd_X12_same_0.2.2.2.2.2.2.1
theorem dX12_same_9 : decode cX12_same 9 = .ok (.iconst 0, 1) := gd_X12_same_0.2.2.2.2.2.2.2.1
theorem dX12_same_10 : decode cX12_same 10 = .ok (.ireturn, 1) := gd_X12_same_0.2.2.2.2.2.2.2.2.1
theorem dX12_same_11 : decode cX12_same 11 = .ok (.iconst 0, 1) := gd_X12_same_0.2.2.2.2.2.2.2.2.2
theorem gd_X12_same_12 : decode cX12_same 12 = .ok (.istore 4, 2) ∧ decode cX12_same 14 = .ok (.iload 4, 2) ∧ decode cX12_same 16 = .ok (.aload_n 1, 1) ∧ decode cX12_same 17 = .ok (.iload_n 2, 1) ∧ decode cX12_same 18 = .ok (.iaload, 1) ∧ decode cX12_same 19 = .ok (.if_icmp .ge 32, 3) ∧ decode cX12_same 22 = .ok (.aload_n 0, 1) ∧ decode cX12_same 23 = .ok (.bipush 16, 2) ∧ decode cX12_same 25 = .ok (.iload_n 2, 1) ∧ decode cX12_same 26 = .ok (.imul, 1) := by decide +kernel
theorem dX12_same_12 : decode cX12_same 12 = .ok (.istore 4, 2) := gd_X12_same_12.1
theorem dX12_same_14 : decode cX12_same 14 = .ok (.iload 4, 2) := gd_X12_same_12.2.1
theorem dX12_same_16 : decode cX12_same 16 = .ok (.aload_n 1, 1) := gd_X12_same_12.2.2.1
theorem dX12_same_17 : decode cX12_same 17 = .ok (.iload_n 2, 1) := gd_X12_same_12.2.2.2.1
theorem dX12_same_18 : decode cX12_same 18 = .ok (.iaload, 1) := gd_X12_same_12.2.2.2.2.1
theorem dX12_same_19 : decode cX12_same 19 = .ok (.if_icmp .ge 32, 3) := gd_X12_same_12.2.2.2.2.2.1
theorem dX12_same_22 : decode cX12_same 22 = .ok (.aload_n 0, 1) := gd_X12_same_12.2.2.2.2.2.2.1
theorem dX12_same_23 : decode cX12_same 23 = .ok (.bipush 16, 2) := gd_X12_same_12.2.2.2.2.2.2.2.1
theorem dX12_same_25 : decode cX12_same 25 = .ok (.iload_n 2, 1) := gd_X12_same_12.2.2.2.2.2.2.2.2.1
theorem dX12_same_26 : decode cX12_same 26 = .ok (.imul, 1) := gd_X12_same_12.2.2.2.2.2.2.2.2.2
theorem gd_X12_same_27 : decode cX12_same 27 = .ok (.iload 4, 2) ∧ decode cX12_same 29 = .ok (.iadd, 1) ∧ decode cX12_same 30 = .ok (.baload, 1) ∧ decode cX12_same 31 = .ok (.aload_n 0, 1) ∧ decode cX12_same 32 = .ok (.bipush 16, 2) ∧ decode cX12_same 34 = .ok (.iload_n 3, 1) ∧ decode cX12_same 35 = .ok (.imul, 1) ∧ decode cX12_same 36 = .ok (.iload 4, 2) ∧ decode cX12_same 38 = .ok (.iadd, 1) ∧ decode cX12_same 39 = .ok (.baload, 1) := by decide +kernel
theorem dX12_same_27 : decode cX12_same 27 = .ok (.iload 4, 2) := gd_X12_same_27.1
theorem dX12_same_29 : decode cX12_same 29 = .ok (.iadd, 1) := gd_X12_same_27.2.1
theorem dX12_same_30 : decode cX12_same 30 = .ok (.baload, 1) := gd_X12_same_27.2.2.1
theorem dX12_same_31 : decode cX12_same 31 = .ok (.aload_n 0, 1) := gd_X12_same_27.2.2.2.1
theorem dX12_same_32 : decode cX12_same 32 = .ok (.bipush 16, 2) := gd_X12_same_27.2.2.2.2.1
theorem dX12_same_34 : decode cX12_same 34 = .ok (.iload_n 3, 1) := gd_X12_same_27.2.2.2.2.2.1
theorem dX12_same_35 : decode cX12_same 35 = .ok (.imul, 1) := gd_X12_same_27.2.2.2.2.2.2.1
theorem dX12_same_36 : decode cX12_same 36 = .ok (.iload 4, 2) := gd_X12_same_27.2.2.2.2.2.2.2.1
theorem dX12_same_38 : decode cX12_same 38 = .ok (.iadd, 1) := gd_X12_same_27.2.2.2.2.2.2.2.2.1
theorem dX12_same_39 : decode cX12_same 39 = .ok (.baload, 1) := gd_X12_same_27.2.2.2.2.2.2.2.2.2
theorem gd_X12_same_40 : decode cX12_same 40 = .ok (.if_icmp .eq 5, 3) ∧ decode cX12_same 43 = .ok (.iconst 0, 1) ∧ decode cX12_same 44 = .ok (.ireturn, 1) ∧ decode cX12_same 45 = .ok (.iinc 4 1, 3) ∧ decode cX12_same 48 = .ok (.goto (-34), 3) ∧ decode cX12_same 51 = .ok (.iconst 1, 1) ∧ decode cX12_same 52 = .ok (.ireturn, 1) ∧ decode cX12_copy 0 = .ok (.aload_n 1, 1) ∧ decode cX12_copy 1 = .ok (.iload_n 3, 1) ∧ decode cX12_copy 2 = .ok (.aload_n 1, 1) := by decide +kernel
theorem dX12_same_40 : decode cX12_same 40 = .ok (.if_icmp .eq 5, 3) := gd_X12_same_40.1
theorem dX12_same_43 : decode cX12_same 43 = .ok (.iconst 0, 1) := gd_X12_same_40.2.1
theorem dX12_same_44 : decode cX12_same 44 = .ok (.ireturn, 1) := gd_X12_same_40.2.2.1
theorem dX12_same_45 : decode cX12_same 45 = .ok (.iinc 4 1, 3) := gd_X12_same_40.2.2.2.1
theorem dX12_same_48 : decode cX12_same 48 = .ok (.goto (-34), 3) := gd_X12_same_40.2.2.2.2.1
theorem dX12_same_51 : decode cX12_same 51 = .ok (.iconst 1, 1) := gd_X12_same_40.2.2.2.2.2.1
theorem dX12_same_52 : decode cX12_same 52 = .ok (.ireturn, 1) := gd_X12_same_40.2.2.2.2.2.2.1
theorem dX12_copy_0 : decode cX12_copy 0 = .ok (.aload_n 1, 1) := gd_X12_same_40.2.2.2.2.2.2.2.1
theorem dX12_copy_1 : decode cX12_copy 1 = .ok (.iload_n 3, 1) := gd_X12_same_40.2.2.2.2.2.2.2.2.1
theorem dX12_copy_2 : decode cX12_copy 2 = .ok (.aload_n 1, 1) := gd_X12_same_40.2.2.2.2.2.2.2.2.2
theorem gd_X12_copy_3 : decode cX12_copy 3 = .ok (.iload_n 2, 1) ∧ decode cX12_copy 4 = .ok (.iaload, 1) ∧ decode cX12_copy 5 = .ok (.iastore, 1) ∧ decode cX12_copy 6 = .ok (.iconst 0, 1) ∧ decode cX12_copy 7 = .ok (.istore 4, 2) ∧ decode cX12_copy 9 = .ok (.iload 4, 2) ∧ decode cX12_copy 11 = .ok (.aload_n 1, 1) ∧ decode cX12_copy 12 = .ok (.iload_n 2, 1) ∧ decode cX12_copy 13 = .ok (.iaload, 1) ∧ decode cX12_copy 14 = .ok (.if_icmp .ge 27, 3) := by decide +kernel
theorem dX12_copy_3 : decode cX12_copy 3 = .ok (.iload_n 2, 1) := gd_X12_copy_3.1
theorem dX12_copy_4 : decode cX12_copy 4 = .ok (.iaload, 1) := gd_X12_copy_3.2.1
theorem dX12_copy_5 : decode cX12_copy 5 = .ok (.iastore, 1) := gd_X12_copy_3.2.2.1
theorem dX12_copy_6 : decode cX12_copy 6 = .ok (.iconst 0, 1) := gd_X12_copy_3.2.2.2.1
theorem dX12_copy_7 : decode cX12_copy 7 = .ok (.istore 4, 2) := gd_X12_copy_3.2.2.2.2.1
theorem dX12_copy_9 : decode cX12_copy 9 = .ok (.iload 4, 2) := gd_X12_copy_3.2.2.2.2.2.1
theorem dX12_copy_11 : decode cX12_copy 11 = .ok (.aload_n 1, 1) := gd_X12_copy_3.2.2.2.2.2.2.1
theorem dX12_copy_12 : decode cX12_copy 12 = .ok (.iload_n 2, 1) := gd_X12_copy_3.2.2.2.2.2.2.2.1
theorem dX12_copy_13 : decode cX12_copy 13 = .ok (.iaload, 1) := gd_X12_copy_3.2.2.2.2.2.2.2.2.1
theorem dX12_copy_14 : decode cX12_copy 14 = .ok (.if_icmp .ge 27, 3) := gd_X12_copy_3.2.2.2.2.2.2.2.2.2
theorem gd_X12_copy_17 : decode cX12_copy 17 = .ok (.aload_n 0, 1) ∧ decode cX12_copy 18 = .ok (.bipush 16, 2) ∧ decode cX12_copy 20 = .ok (.iload_n 3, 1) ∧ decode cX12_copy 21 = .ok (.imul, 1) ∧ decode cX12_copy 22 = .ok (.iload 4, 2) ∧ decode cX12_copy 24 = .ok (.iadd, 1) ∧ decode cX12_copy 25 = .ok (.aload_n 0, 1) ∧ decode cX12_copy 26 = .ok (.bipush 16, 2) ∧ decode cX12_copy 28 = .ok (.iload_n 2, 1) ∧ decode cX12_copy 29 = .ok (.imul, 1) := by decide +kernel
theorem dX12_copy_17 : decode cX12_copy 17 = .ok (.aload_n 0, 1) := gd_X12_copy_17.1
theorem dX12_copy_18 : decode cX12_copy 18 = .ok (.bipush 16, 2) := gd_X12_copy_17.2.1
theorem dX12_copy_20 : decode cX12_copy 20 = .ok (.iload_n 3, 1) := gd_X12_copy_17.2.2.1
theorem dX12_copy_21 : decode cX12_copy 21 = .ok (.imul, 1) := gd_X12_copy_17.2.2.2.1
theorem dX12_copy_22 : decode cX12_copy 22 = .ok (.iload 4, 2) := gd_X12_copy_17.2.2.2.2.1
theorem dX12_copy_24 : decode cX12_copy 24 = .ok (.iadd, 1) := gd_X12_copy_17.2.2.2.2.2.1
theorem dX12_copy_25 : decode cX12_copy 25 = .ok (.aload_n 0, 1) := gd_X12_copy_17.2.2.2.2.2.2.1
theorem dX12_copy_26 : decode cX12_copy 26 = .ok (.bipush 16, 2) := gd_X12_copy_17.2.2.2.2.2.2.2.1
theorem dX12_copy_28 : decode cX12_copy 28 = .ok (.iload_n 2, 1) := gd_X12_copy_17.2.2.2.2.2.2.2.2.1
theorem dX12_copy_29 : decode cX12_copy 29 = .ok (.imul, 1) := gd_X12_copy_17.2.2.2.2.2.2.2.2.2
theorem gd_X12_copy_30 : decode cX12_copy 30 = .ok (.iload 4, 2) ∧ decode cX12_copy 32 = .ok (.iadd, 1) ∧ decode cX12_copy 33 = .ok (.baload, 1) ∧ decode cX12_copy 34 = .ok (.bastore, 1) ∧ decode cX12_copy 35 = .ok (.iinc 4 1, 3) ∧ decode cX12_copy 38 = .ok (.goto (-29), 3) ∧ decode cX12_copy 41 = .ok (.return_, 1) ∧ decode cX12_stage 25 = .ok (.iload_n 2, 1) ∧ decode cX12_stage 26 = .ok (.aload_n 0, 1) ∧ decode cX12_stage 27 = .ok (.getfield 17, 3) := by decide +kernel
theorem dX12_copy_30 : decode cX12_copy 30 = .ok (.iload 4, 2) := gd_X12_copy_30.1
theorem dX12_copy_32 : decode cX12_copy 32 = .ok (.iadd, 1) := gd_X12_copy_30.2.1
theorem dX12_copy_33 : decode cX12_copy 33 = .ok (.baload, 1) := gd_X12_copy_30.2.2.1
theorem dX12_copy_34 : decode cX12_copy 34 = .ok (.bastore, 1) := gd_X12_copy_30.2.2.2.1
theorem dX12_copy_35 : decode cX12_copy 35 = .ok (.iinc 4 1, 3) := gd_X12_copy_30.2.2.2.2.1
theorem dX12_copy_38 : decode cX12_copy 38 = .ok (.goto (-29), 3) := gd_X12_copy_30.2.2.2.2.2.1
theorem dX12_copy_41 : decode cX12_copy 41 = .ok (.return_, 1) := gd_X12_copy_30.2.2.2.2.2.2.1
theorem dX12_stage_25 : decode cX12_stage 25 = .ok (.iload_n 2, 1) := gd_X12_copy_30.2.2.2.2.2.2.2.1
theorem dX12_stage_26 : decode cX12_stage 26 = .ok (.aload_n 0, 1) := gd_X12_copy_30.2.2.2.2.2.2.2.2.1
theorem dX12_stage_27 : decode cX12_stage 27 = .ok (.getfield 17, 3) := gd_X12_copy_30.2.2.2.2.2.2.2.2.2
theorem gd_X12_stage_30 : decode cX12_stage 30 = .ok (.iload_n 3, 1) ∧ decode cX12_stage 31 = .ok (.iaload, 1) ∧ decode cX12_stage 32 = .ok (.iload_n 1, 1) ∧ decode cX12_stage 33 = .ok (.if_icmp .gt 7, 3) ∧ decode cX12_stage 36 = .ok (.iconst 1, 1) ∧ decode cX12_stage 37 = .ok (.goto 4, 3) ∧ decode cX12_stage 40 = .ok (.iconst 0, 1) ∧ decode cX12_stage 41 = .ok (.iadd, 1) ∧ decode cX12_stage 42 = .ok (.istore_n 2, 1) ∧ decode cX12_stage 43 = .ok (.iinc 3 1, 3) := by decide +kernel
theorem dX12_stage_30 : decode cX12_stage 30 = .ok (.iload_n 3, 1) := gd_X12_stage_30.1
theorem dX12_stage_31 : decode cX12_stage 31 = .ok (.iaload, 1) := gd_X12_stage_30.2.1
theorem dX12_stage_32 : decode cX12_stage 32 = .ok (.iload_n 1, 1) := gd_X12_stage_30.2.2.1
theorem dX12_stage_33 : decode cX12_stage 33 = .ok (.if_icmp .gt 7, 3) := gd_X12_stage_30.2.2.2.1
theorem dX12_stage_36 : decode cX12_stage 36 = .ok (.iconst 1, 1) := gd_X12_stage_30.2.2.2.2.1
theorem dX12_stage_37 : decode cX12_stage 37 = .ok (.goto 4, 3) := gd_X12_stage_30.2.2.2.2.2.1
theorem dX12_stage_40 : decode cX12_stage 40 = .ok (.iconst 0, 1) := gd_X12_stage_30.2.2.2.2.2.2.1
theorem dX12_stage_41 : decode cX12_stage 41 = .ok (.iadd, 1) := gd_X12_stage_30.2.2.2.2.2.2.2.1
theorem dX12_stage_42 : decode cX12_stage 42 = .ok (.istore_n 2, 1) := gd_X12_stage_30.2.2.2.2.2.2.2.2.1
theorem dX12_stage_43 : decode cX12_stage 43 = .ok (.iinc 3 1, 3) := gd_X12_stage_30.2.2.2.2.2.2.2.2.2
theorem gd_X12_stage_46 : decode cX12_stage 46 = .ok (.goto (-29), 3) ∧ decode cX12_listedAs 0 = .ok (.bipush 40, 2) ∧ decode cX12_listedAs 2 = .ok (.iload_n 1, 1) ∧ decode cX12_listedAs 3 = .ok (.imul, 1) ∧ decode cX12_listedAs 4 = .ok (.istore_n 2, 1) ∧ decode cX12_listedAs 5 = .ok (.iload_n 2, 1) ∧ decode cX12_listedAs 6 = .ok (.bipush 40, 2) ∧ decode cX12_listedAs 8 = .ok (.iload_n 1, 1) ∧ decode cX12_listedAs 9 = .ok (.imul, 1) ∧ decode cX12_listedAs 10 = .ok (.aload_n 0, 1) := by decide +kernel
theorem dX12_stage_46 : decode cX12_stage 46 = .ok (.goto (-29), 3) := gd_X12_stage_46.1
theorem dX12_listedAs_0 : decode cX12_listedAs 0 = .ok (.bipush 40, 2) := gd_X12_stage_46.2.1
theorem dX12_listedAs_2 : decode cX12_listedAs 2 = .ok (.iload_n 1, 1) := gd_X12_stage_46.2.2.1
theorem dX12_listedAs_3 : decode cX12_listedAs 3 = .ok (.imul, 1) := gd_X12_stage_46.2.2.2.1
theorem dX12_listedAs_4 : decode cX12_listedAs 4 = .ok (.istore_n 2, 1) := gd_X12_stage_46.2.2.2.2.1
theorem dX12_listedAs_5 : decode cX12_listedAs 5 = .ok (.iload_n 2, 1) := gd_X12_stage_46.2.2.2.2.2.1
theorem dX12_listedAs_6 : decode cX12_listedAs 6 = .ok (.bipush 40, 2) := gd_X12_stage_46.2.2.2.2.2.2.1
theorem dX12_listedAs_8 : decode cX12_listedAs 8 = .ok (.iload_n 1, 1) := gd_X12_stage_46.2.2.2.2.2.2.2.1
theorem dX12_listedAs_9 : decode cX12_listedAs 9 = .ok (.imul, 1) := gd_X12_stage_46.2.2.2.2.2.2.2.2.1
theorem dX12_listedAs_10 : decode cX12_listedAs 10 = .ok (.aload_n 0, 1) := gd_X12_stage_46.2.2.2.2.2.2.2.2.2
theorem gd_X12_listedAs_11 : decode cX12_listedAs 11 = .ok (.getfield 27, 3) ∧ decode cX12_listedAs 14 = .ok (.iload_n 1, 1) ∧ decode cX12_listedAs 15 = .ok (.iaload, 1) ∧ decode cX12_listedAs 16 = .ok (.iadd, 1) ∧ decode cX12_listedAs 17 = .ok (.if_icmp .ge 42, 3) ∧ decode cX12_listedAs 20 = .ok (.aload_n 0, 1) ∧ decode cX12_listedAs 21 = .ok (.getfield 49, 3) ∧ decode cX12_listedAs 24 = .ok (.bipush 32, 2) ∧ decode cX12_listedAs 26 = .ok (.iload_n 2, 1) ∧ decode cX12_listedAs 27 = .ok (.imul, 1) := by decide +kernel
theorem dX12_listedAs_11 : decode cX12_listedAs 11 = .ok (.getfield 27, 3) := gd_X12_listedAs_11.1
theorem dX12_listedAs_14 : decode cX12_listedAs 14 = .ok (.iload_n 1, 1) := gd_X12_listedAs_11.2.1
theorem dX12_listedAs_15 : decode cX12_listedAs 15 = .ok (.iaload, 1) := gd_X12_listedAs_11.2.2.1
theorem dX12_listedAs_16 : decode cX12_listedAs 16 = .ok (.iadd, 1) := gd_X12_listedAs_11.2.2.2.1
theorem dX12_listedAs_17 : decode cX12_listedAs 17 = .ok (.if_icmp .ge 42, 3) := gd_X12_listedAs_11.2.2.2.2.1
theorem dX12_listedAs_20 : decode cX12_listedAs 20 = .ok (.aload_n 0, 1) := gd_X12_listedAs_11.2.2.2.2.2.1
theorem dX12_listedAs_21 : decode cX12_listedAs 21 = .ok (.getfield 49, 3) := gd_X12_listedAs_11.2.2.2.2.2.2.1
theorem dX12_listedAs_24 : decode cX12_listedAs 24 = .ok (.bipush 32, 2) := gd_X12_listedAs_11.2.2.2.2.2.2.2.1
theorem dX12_listedAs_26 : decode cX12_listedAs 26 = .ok (.iload_n 2, 1) := gd_X12_listedAs_11.2.2.2.2.2.2.2.2.1
theorem dX12_listedAs_27 : decode cX12_listedAs 27 = .ok (.imul, 1) := gd_X12_listedAs_11.2.2.2.2.2.2.2.2.2
theorem gd_X12_listedAs_28 : decode cX12_listedAs 28 = .ok (.aload_n 0, 1) ∧ decode cX12_listedAs 29 = .ok (.getfield 52, 3) ∧ decode cX12_listedAs 32 = .ok (.iconst 2, 1) ∧ decode cX12_listedAs 33 = .ok (.iload_n 2, 1) ∧ decode cX12_listedAs 34 = .ok (.imul, 1) ∧ decode cX12_listedAs 35 = .ok (.iaload, 1) ∧ decode cX12_listedAs 36 = .ok (.aload_n 0, 1) ∧ decode cX12_listedAs 37 = .ok (.getfield 55, 3) ∧ decode cX12_listedAs 40 = .ok (.iconst 0, 1) ∧ decode cX12_listedAs 41 = .ok (.aload_n 0, 1) := by decide +kernel
theorem dX12_listedAs_28 : decode cX12_listedAs 28 = .ok (.aload_n 0, 1) := gd_X12_listedAs_28.1
theorem dX12_listedAs_29 : decode cX12_listedAs 29 = .ok (.getfield 52, 3) := gd_X12_listedAs_28.2.1
theorem dX12_listedAs_32 : decode cX12_listedAs 32 = .ok (.iconst 2, 1) := gd_X12_listedAs_28.2.2.1
theorem dX12_listedAs_33 : decode cX12_listedAs 33 = .ok (.iload_n 2, 1) := gd_X12_listedAs_28.2.2.2.1
theorem dX12_listedAs_34 : decode cX12_listedAs 34 = .ok (.imul, 1) := gd_X12_listedAs_28.2.2.2.2.1
theorem dX12_listedAs_35 : decode cX12_listedAs 35 = .ok (.iaload, 1) := gd_X12_listedAs_28.2.2.2.2.2.1
theorem dX12_listedAs_36 : decode cX12_listedAs 36 = .ok (.aload_n 0, 1) := gd_X12_listedAs_28.2.2.2.2.2.2.1
theorem dX12_listedAs_37 : decode cX12_listedAs 37 = .ok (.getfield 55, 3) := gd_X12_listedAs_28.2.2.2.2.2.2.2.1
theorem dX12_listedAs_40 : decode cX12_listedAs 40 = .ok (.iconst 0, 1) := gd_X12_listedAs_28.2.2.2.2.2.2.2.2.1
theorem dX12_listedAs_41 : decode cX12_listedAs 41 = .ok (.aload_n 0, 1) := gd_X12_listedAs_28.2.2.2.2.2.2.2.2.2
theorem gd_X12_listedAs_42 : decode cX12_listedAs 42 = .ok (.getfield 244, 3) ∧ decode cX12_listedAs 45 = .ok (.invokestatic 273, 3) ∧ decode cX12_listedAs 48 = .ok (.ifCond .eq 5, 3) ∧ decode cX12_listedAs 51 = .ok (.iload_n 2, 1) ∧ decode cX12_listedAs 52 = .ok (.ireturn, 1) ∧ decode cX12_listedAs 53 = .ok (.iinc 2 1, 3) ∧ decode cX12_listedAs 56 = .ok (.goto (-51), 3) ∧ decode cX12_listedAs 59 = .ok (.iconst (-1), 1) ∧ decode cX12_listedAs 60 = .ok (.ireturn, 1) ∧ decode cX12_form 14 = .ok (.iload_n 2, 1) := by decide +kernel
theorem dX12_listedAs_42 : decode cX12_listedAs 42 = .ok (.getfield 244, 3) := gd_X12_listedAs_42.1
theorem dX12_listedAs_45 : decode cX12_listedAs 45 = .ok (.invokestatic 273, 3) := gd_X12_listedAs_42.2.1
theorem dX12_listedAs_48 : decode cX12_listedAs 48 = .ok (.ifCond .eq 5, 3) := gd_X12_listedAs_42.2.2.1
theorem dX12_listedAs_51 : decode cX12_listedAs 51 = .ok (.iload_n 2, 1) := gd_X12_listedAs_42.2.2.2.1
theorem dX12_listedAs_52 : decode cX12_listedAs 52 = .ok (.ireturn, 1) := gd_X12_listedAs_42.2.2.2.2.1
theorem dX12_listedAs_53 : decode cX12_listedAs 53 = .ok (.iinc 2 1, 3) := gd_X12_listedAs_42.2.2.2.2.2.1
theorem dX12_listedAs_56 : decode cX12_listedAs 56 = .ok (.goto (-51), 3) := gd_X12_listedAs_42.2.2.2.2.2.2.1
theorem dX12_listedAs_59 : decode cX12_listedAs 59 = .ok (.iconst (-1), 1) := gd_X12_listedAs_42.2.2.2.2.2.2.2.1
theorem dX12_listedAs_60 : decode cX12_listedAs 60 = .ok (.ireturn, 1) := gd_X12_listedAs_42.2.2.2.2.2.2.2.2.1
theorem dX12_form_14 : decode cX12_form 14 = .ok (.iload_n 2, 1) := gd_X12_listedAs_42.2.2.2.2.2.2.2.2.2
theorem gd_X12_form_15 : decode cX12_form 15 = .ok (.iconst 0, 1) ∧ decode cX12_form 16 = .ok (.aload_n 0, 1) ∧ decode cX12_form 17 = .ok (.getfield 97, 3) ∧ decode cX12_form 20 = .ok (.iload_n 1, 1) ∧ decode cX12_form 21 = .ok (.iaload, 1) ∧ decode cX12_form 22 = .ok (.iconst 1, 1) ∧ decode cX12_form 23 = .ok (.isub, 1) ∧ decode cX12_form 24 = .ok (.invokestatic 226, 3) ∧ decode cX12_form 27 = .ok (.ifCond .eq 17, 3) ∧ decode cX12_form 30 = .ok (.aload_n 0, 1) := by decide +kernel
theorem dX12_form_15 : decode cX12_form 15 = .ok (.iconst 0, 1) := gd_X12_form_15.1
theorem dX12_form_16 : decode cX12_form 16 = .ok (.aload_n 0, 1) := gd_X12_form_15.2.1
theorem dX12_form_17 : decode cX12_form 17 = .ok (.getfield 97, 3) := gd_X12_form_15.2.2.1
theorem dX12_form_20 : decode cX12_form 20 = .ok (.iload_n 1, 1) := gd_X12_form_15.2.2.2.1
theorem dX12_form_21 : decode cX12_form 21 = .ok (.iaload, 1) := gd_X12_form_15.2.2.2.2.1
theorem dX12_form_22 : decode cX12_form 22 = .ok (.iconst 1, 1) := gd_X12_form_15.2.2.2.2.2.1
theorem dX12_form_23 : decode cX12_form 23 = .ok (.isub, 1) := gd_X12_form_15.2.2.2.2.2.2.1
theorem dX12_form_24 : decode cX12_form 24 = .ok (.invokestatic 226, 3) := gd_X12_form_15.2.2.2.2.2.2.2.1
theorem dX12_form_27 : decode cX12_form 27 = .ok (.ifCond .eq 17, 3) := gd_X12_form_15.2.2.2.2.2.2.2.2.1
theorem dX12_form_30 : decode cX12_form 30 = .ok (.aload_n 0, 1) := gd_X12_form_15.2.2.2.2.2.2.2.2.2
theorem gd_X12_form_31 : decode cX12_form 31 = .ok (.getfield 94, 3) ∧ decode cX12_form 34 = .ok (.bipush 24, 2) ∧ decode cX12_form 36 = .ok (.iload_n 1, 1) ∧ decode cX12_form 37 = .ok (.imul, 1) ∧ decode cX12_form 38 = .ok (.iload_n 2, 1) ∧ decode cX12_form 39 = .ok (.iadd, 1) ∧ decode cX12_form 40 = .ok (.baload, 1) ∧ decode cX12_form 41 = .ok (.goto 4, 3) ∧ decode cX12_parting 16 = .ok (.iload_n 2, 1) ∧ decode cX12_parting 17 = .ok (.ifCond .ne 10, 3) := by decide +kernel
theorem dX12_form_31 : decode cX12_form 31 = .ok (.getfield 94, 3) := gd_X12_form_31.1
theorem dX12_form_34 : decode cX12_form 34 = .ok (.bipush 24, 2) := gd_X12_form_31.2.1
theorem dX12_form_36 : decode cX12_form 36 = .ok (.iload_n 1, 1) := gd_X12_form_31.2.2.1
theorem dX12_form_37 : decode cX12_form 37 = .ok (.imul, 1) := gd_X12_form_31.2.2.2.1
theorem dX12_form_38 : decode cX12_form 38 = .ok (.iload_n 2, 1) := gd_X12_form_31.2.2.2.2.1
theorem dX12_form_39 : decode cX12_form 39 = .ok (.iadd, 1) := gd_X12_form_31.2.2.2.2.2.1
theorem dX12_form_40 : decode cX12_form 40 = .ok (.baload, 1) := gd_X12_form_31.2.2.2.2.2.2.1
theorem dX12_form_41 : decode cX12_form 41 = .ok (.goto 4, 3) := gd_X12_form_31.2.2.2.2.2.2.2.1
theorem dX12_parting_16 : decode cX12_parting 16 = .ok (.iload_n 2, 1) := gd_X12_form_31.2.2.2.2.2.2.2.2.1
theorem dX12_parting_17 : decode cX12_parting 17 = .ok (.ifCond .ne 10, 3) := gd_X12_form_31.2.2.2.2.2.2.2.2.2
theorem gd_X12_parting_20 : decode cX12_parting 20 = .ok (.aload_n 0, 1) ∧ decode cX12_parting 21 = .ok (.getfield 103, 3) ∧ decode cX12_parting 24 = .ok (.iload_n 1, 1) ∧ decode cX12_parting 25 = .ok (.iaload, 1) ∧ decode cX12_parting 26 = .ok (.ireturn, 1) ∧ decode cX12_parting 27 = .ok (.iload_n 2, 1) ∧ decode cX12_parting 28 = .ok (.iconst 1, 1) ∧ decode cX12_parting 29 = .ok (.aload_n 0, 1) ∧ decode cX12_parting 30 = .ok (.getfield 103, 3) ∧ decode cX12_parting 33 = .ok (.iload_n 1, 1) := by decide +kernel
theorem dX12_parting_20 : decode cX12_parting 20 = .ok (.aload_n 0, 1) := gd_X12_parting_20.1
theorem dX12_parting_21 : decode cX12_parting 21 = .ok (.getfield 103, 3) := gd_X12_parting_20.2.1
theorem dX12_parting_24 : decode cX12_parting 24 = .ok (.iload_n 1, 1) := gd_X12_parting_20.2.2.1
theorem dX12_parting_25 : decode cX12_parting 25 = .ok (.iaload, 1) := gd_X12_parting_20.2.2.2.1
theorem dX12_parting_26 : decode cX12_parting 26 = .ok (.ireturn, 1) := gd_X12_parting_20.2.2.2.2.1
theorem dX12_parting_27 : decode cX12_parting 27 = .ok (.iload_n 2, 1) := gd_X12_parting_20.2.2.2.2.2.1
theorem dX12_parting_28 : decode cX12_parting 28 = .ok (.iconst 1, 1) := gd_X12_parting_20.2.2.2.2.2.2.1
theorem dX12_parting_29 : decode cX12_parting 29 = .ok (.aload_n 0, 1) := gd_X12_parting_20.2.2.2.2.2.2.2.1
theorem dX12_parting_30 : decode cX12_parting 30 = .ok (.getfield 103, 3) := gd_X12_parting_20.2.2.2.2.2.2.2.2.1
theorem dX12_parting_33 : decode cX12_parting 33 = .ok (.iload_n 1, 1) := gd_X12_parting_20.2.2.2.2.2.2.2.2.2
theorem gd_X12_parting_34 : decode cX12_parting 34 = .ok (.iaload, 1) ∧ decode cX12_parting 35 = .ok (.invokestatic 226, 3) ∧ decode cX12_parting 38 = .ok (.ifCond .eq 19, 3) ∧ decode cX12_parting 41 = .ok (.aload_n 0, 1) ∧ decode cX12_parting 42 = .ok (.getfield 100, 3) ∧ decode cX12_parting 45 = .ok (.bipush 24, 2) ∧ decode cX12_parting 47 = .ok (.iload_n 1, 1) ∧ decode cX12_parting 48 = .ok (.imul, 1) ∧ decode cX12_parting 49 = .ok (.iload_n 2, 1) ∧ decode cX12_parting 50 = .ok (.iadd, 1) := by decide +kernel
theorem dX12_parting_34 : decode cX12_parting 34 = .ok (.iaload, 1) := gd_X12_parting_34.1
theorem dX12_parting_35 : decode cX12_parting 35 = .ok (.invokestatic 226, 3) := gd_X12_parting_34.2.1
theorem dX12_parting_38 : decode cX12_parting 38 = .ok (.ifCond .eq 19, 3) := gd_X12_parting_34.2.2.1
theorem dX12_parting_41 : decode cX12_parting 41 = .ok (.aload_n 0, 1) := gd_X12_parting_34.2.2.2.1
theorem dX12_parting_42 : decode cX12_parting 42 = .ok (.getfield 100, 3) := gd_X12_parting_34.2.2.2.2.1
theorem dX12_parting_45 : decode cX12_parting 45 = .ok (.bipush 24, 2) := gd_X12_parting_34.2.2.2.2.2.1
theorem dX12_parting_47 : decode cX12_parting 47 = .ok (.iload_n 1, 1) := gd_X12_parting_34.2.2.2.2.2.2.1
theorem dX12_parting_48 : decode cX12_parting 48 = .ok (.imul, 1) := gd_X12_parting_34.2.2.2.2.2.2.2.1
theorem dX12_parting_49 : decode cX12_parting 49 = .ok (.iload_n 2, 1) := gd_X12_parting_34.2.2.2.2.2.2.2.2.1
theorem dX12_parting_50 : decode cX12_parting 50 = .ok (.iadd, 1) := gd_X12_parting_34.2.2.2.2.2.2.2.2.2
theorem gd_X12_parting_51 : decode cX12_parting 51 = .ok (.iconst 1, 1) ∧ decode cX12_parting 52 = .ok (.isub, 1) ∧ decode cX12_parting 53 = .ok (.iaload, 1) ∧ decode cX12_parting 54 = .ok (.goto 4, 3) ∧ decode cX12_parting 57 = .ok (.iconst (-1), 1) ∧ decode cX12_parting 58 = .ok (.ireturn, 1) ∧ decode cX12_learn 10 = .ok (.iconst 0, 1) ∧ decode cX12_learn 11 = .ok (.istore_n 1, 1) ∧ decode cX12_learn 12 = .ok (.iload_n 1, 1) ∧ decode cX12_learn 13 = .ok (.aload_n 0, 1) := by decide +kernel
theorem dX12_parting_51 : decode cX12_parting 51 = .ok (.iconst 1, 1) := gd_X12_parting_51.1
theorem dX12_parting_52 : decode cX12_parting 52 = .ok (.isub, 1) := gd_X12_parting_51.2.1
theorem dX12_parting_53 : decode cX12_parting 53 = .ok (.iaload, 1) := gd_X12_parting_51.2.2.1
theorem dX12_parting_54 : decode cX12_parting 54 = .ok (.goto 4, 3) := gd_X12_parting_51.2.2.2.1
theorem dX12_parting_57 : decode cX12_parting 57 = .ok (.iconst (-1), 1) := gd_X12_parting_51.2.2.2.2.1
theorem dX12_parting_58 : decode cX12_parting 58 = .ok (.ireturn, 1) := gd_X12_parting_51.2.2.2.2.2.1
theorem dX12_learn_10 : decode cX12_learn 10 = .ok (.iconst 0, 1) := gd_X12_parting_51.2.2.2.2.2.2.1
theorem dX12_learn_11 : decode cX12_learn 11 = .ok (.istore_n 1, 1) := gd_X12_parting_51.2.2.2.2.2.2.2.1
theorem dX12_learn_12 : decode cX12_learn 12 = .ok (.iload_n 1, 1) := gd_X12_parting_51.2.2.2.2.2.2.2.2.1
theorem dX12_learn_13 : decode cX12_learn 13 = .ok (.aload_n 0, 1) := gd_X12_parting_51.2.2.2.2.2.2.2.2.2
theorem gd_X12_learn_14 : decode cX12_learn 14 = .ok (.getfield 312, 3) ∧ decode cX12_learn 17 = .ok (.if_icmp .ge 40, 3) ∧ decode cX12_learn 20 = .ok (.aload_n 0, 1) ∧ decode cX12_learn 21 = .ok (.getfield 106, 3) ∧ decode cX12_learn 24 = .ok (.bipush 24, 2) ∧ decode cX12_learn 26 = .ok (.iload_n 1, 1) ∧ decode cX12_learn 27 = .ok (.imul, 1) ∧ decode cX12_learn 28 = .ok (.aload_n 0, 1) ∧ decode cX12_learn 29 = .ok (.getfield 109, 3) ∧ decode cX12_learn 32 = .ok (.iload_n 1, 1) := by decide +kernel
theorem dX12_learn_14 : decode cX12_learn 14 = .ok (.getfield 312, 3) := gd_X12_learn_14.1
theorem dX12_learn_17 : decode cX12_learn 17 = .ok (.if_icmp .ge 40, 3) := gd_X12_learn_14.2.1
theorem dX12_learn_20 : decode cX12_learn 20 = .ok (.aload_n 0, 1) := gd_X12_learn_14.2.2.1
theorem dX12_learn_21 : decode cX12_learn 21 = .ok (.getfield 106, 3) := gd_X12_learn_14.2.2.2.1
theorem dX12_learn_24 : decode cX12_learn 24 = .ok (.bipush 24, 2) := gd_X12_learn_14.2.2.2.2.1
theorem dX12_learn_26 : decode cX12_learn 26 = .ok (.iload_n 1, 1) := gd_X12_learn_14.2.2.2.2.2.1
theorem dX12_learn_27 : decode cX12_learn 27 = .ok (.imul, 1) := gd_X12_learn_14.2.2.2.2.2.2.1
theorem dX12_learn_28 : decode cX12_learn 28 = .ok (.aload_n 0, 1) := gd_X12_learn_14.2.2.2.2.2.2.2.1
theorem dX12_learn_29 : decode cX12_learn 29 = .ok (.getfield 109, 3) := gd_X12_learn_14.2.2.2.2.2.2.2.2.1
theorem dX12_learn_32 : decode cX12_learn 32 = .ok (.iload_n 1, 1) := gd_X12_learn_14.2.2.2.2.2.2.2.2.2
theorem gd_X12_learn_33 : decode cX12_learn 33 = .ok (.iaload, 1) ∧ decode cX12_learn 34 = .ok (.aload_n 0, 1) ∧ decode cX12_learn 35 = .ok (.getfield 55, 3) ∧ decode cX12_learn 38 = .ok (.iconst 0, 1) ∧ decode cX12_learn 39 = .ok (.aload_n 0, 1) ∧ decode cX12_learn 40 = .ok (.getfield 244, 3) ∧ decode cX12_learn 43 = .ok (.invokestatic 273, 3) ∧ decode cX12_learn 46 = .ok (.ifCond .eq 5, 3) ∧ decode cX12_learn 49 = .ok (.iload_n 1, 1) ∧ decode cX12_learn 50 = .ok (.ireturn, 1) := by decide +kernel
theorem dX12_learn_33 : decode cX12_learn 33 = .ok (.iaload, 1) := gd_X12_learn_33.1
theorem dX12_learn_34 : decode cX12_learn 34 = .ok (.aload_n 0, 1) := gd_X12_learn_33.2.1
theorem dX12_learn_35 : decode cX12_learn 35 = .ok (.getfield 55, 3) := gd_X12_learn_33.2.2.1
theorem dX12_learn_38 : decode cX12_learn 38 = .ok (.iconst 0, 1) := gd_X12_learn_33.2.2.2.1
theorem dX12_learn_39 : decode cX12_learn 39 = .ok (.aload_n 0, 1) := gd_X12_learn_33.2.2.2.2.1
theorem dX12_learn_40 : decode cX12_learn 40 = .ok (.getfield 244, 3) := gd_X12_learn_33.2.2.2.2.2.1
theorem dX12_learn_43 : decode cX12_learn 43 = .ok (.invokestatic 273, 3) := gd_X12_learn_33.2.2.2.2.2.2.1
theorem dX12_learn_46 : decode cX12_learn 46 = .ok (.ifCond .eq 5, 3) := gd_X12_learn_33.2.2.2.2.2.2.2.1
theorem dX12_learn_49 : decode cX12_learn 49 = .ok (.iload_n 1, 1) := gd_X12_learn_33.2.2.2.2.2.2.2.2.1
theorem dX12_learn_50 : decode cX12_learn 50 = .ok (.ireturn, 1) := gd_X12_learn_33.2.2.2.2.2.2.2.2.2
theorem gd_X12_learn_51 : decode cX12_learn 51 = .ok (.iinc 1 1, 3) ∧ decode cX12_learn 54 = .ok (.goto (-42), 3) ∧ decode cX12_learn 57 = .ok (.aload_n 0, 1) ∧ decode cX12_learn 58 = .ok (.getfield 312, 3) ∧ decode cX12_learn 61 = .ok (.bipush 100, 2) ∧ decode cX12_learn 63 = .ok (.if_icmp .ne 6, 3) ∧ decode cX12_learn 66 = .ok (.bipush (-3), 2) ∧ decode cX12_learn 68 = .ok (.ireturn, 1) ∧ decode cX12_learn 69 = .ok (.iconst 0, 1) ∧ decode cX12_learn 70 = .ok (.istore_n 1, 1) := by decide +kernel
theorem dX12_learn_51 : decode cX12_learn 51 = .ok (.iinc 1 1, 3) := gd_X12_learn_51.1
theorem dX12_learn_54 : decode cX12_learn 54 = .ok (.goto (-42), 3) := gd_X12_learn_51.2.1
theorem dX12_learn_57 : decode cX12_learn 57 = .ok (.aload_n 0, 1) := gd_X12_learn_51.2.2.1
theorem dX12_learn_58 : decode cX12_learn 58 = .ok (.getfield 312, 3) := gd_X12_learn_51.2.2.2.1
theorem dX12_learn_61 : decode cX12_learn 61 = .ok (.bipush 100, 2) := gd_X12_learn_51.2.2.2.2.1
theorem dX12_learn_63 : decode cX12_learn 63 = .ok (.if_icmp .ne 6, 3) := gd_X12_learn_51.2.2.2.2.2.1
theorem dX12_learn_66 : decode cX12_learn 66 = .ok (.bipush (-3), 2) := gd_X12_learn_51.2.2.2.2.2.2.1
theorem dX12_learn_68 : decode cX12_learn 68 = .ok (.ireturn, 1) := gd_X12_learn_51.2.2.2.2.2.2.2.1
theorem dX12_learn_69 : decode cX12_learn 69 = .ok (.iconst 0, 1) := gd_X12_learn_51.2.2.2.2.2.2.2.2.1
theorem dX12_learn_70 : decode cX12_learn 70 = .ok (.istore_n 1, 1) := gd_X12_learn_51.2.2.2.2.2.2.2.2.2
theorem gd_X12_learn_71 : decode cX12_learn 71 = .ok (.iload_n 1, 1) ∧ decode cX12_learn 72 = .ok (.aload_n 0, 1) ∧ decode cX12_learn 73 = .ok (.getfield 244, 3) ∧ decode cX12_learn 76 = .ok (.if_icmp .ge 29, 3) ∧ decode cX12_learn 79 = .ok (.aload_n 0, 1) ∧ decode cX12_learn 80 = .ok (.getfield 106, 3) ∧ decode cX12_learn 83 = .ok (.bipush 24, 2) ∧ decode cX12_learn 85 = .ok (.aload_n 0, 1) ∧ decode cX12_learn 86 = .ok (.getfield 312, 3) ∧ decode cX12_learn 89 = .ok (.imul, 1) := by decide +kernel
theorem dX12_learn_71 : decode cX12_learn 71 = .ok (.iload_n 1, 1) := gd_X12_learn_71.1
theorem dX12_learn_72 : decode cX12_learn 72 = .ok (.aload_n 0, 1) := gd_X12_learn_71.2.1
theorem dX12_learn_73 : decode cX12_learn 73 = .ok (.getfield 244, 3) := gd_X12_learn_71.2.2.1
theorem dX12_learn_76 : decode cX12_learn 76 = .ok (.if_icmp .ge 29, 3) := gd_X12_learn_71.2.2.2.1
theorem dX12_learn_79 : decode cX12_learn 79 = .ok (.aload_n 0, 1) := gd_X12_learn_71.2.2.2.2.1
theorem dX12_learn_80 : decode cX12_learn 80 = .ok (.getfield 106, 3) := gd_X12_learn_71.2.2.2.2.2.1
theorem dX12_learn_83 : decode cX12_learn 83 = .ok (.bipush 24, 2) := gd_X12_learn_71.2.2.2.2.2.2.1
theorem dX12_learn_85 : decode cX12_learn 85 = .ok (.aload_n 0, 1) := gd_X12_learn_71.2.2.2.2.2.2.2.1
theorem dX12_learn_86 : decode cX12_learn 86 = .ok (.getfield 312, 3) := gd_X12_learn_71.2.2.2.2.2.2.2.2.1
theorem dX12_learn_89 : decode cX12_learn 89 = .ok (.imul, 1) := gd_X12_learn_71.2.2.2.2.2.2.2.2.2
theorem gd_X12_learn_90 : decode cX12_learn 90 = .ok (.iload_n 1, 1) ∧ decode cX12_learn 91 = .ok (.iadd, 1) ∧ decode cX12_learn 92 = .ok (.aload_n 0, 1) ∧ decode cX12_learn 93 = .ok (.getfield 55, 3) ∧ decode cX12_learn 96 = .ok (.iload_n 1, 1) ∧ decode cX12_learn 97 = .ok (.baload, 1) ∧ decode cX12_learn 98 = .ok (.bastore, 1) ∧ decode cX12_learn 99 = .ok (.iinc 1 1, 3) ∧ decode cX12_learn 102 = .ok (.goto (-31), 3) ∧ decode cX12_learn 105 = .ok (.aload_n 0, 1) := by decide +kernel
theorem dX12_learn_90 : decode cX12_learn 90 = .ok (.iload_n 1, 1) := gd_X12_learn_90.1
theorem dX12_learn_91 : decode cX12_learn 91 = .ok (.iadd, 1) := gd_X12_learn_90.2.1
theorem dX12_learn_92 : decode cX12_learn 92 = .ok (.aload_n 0, 1) := gd_X12_learn_90.2.2.1
theorem dX12_learn_93 : decode cX12_learn 93 = .ok (.getfield 55, 3) := gd_X12_learn_90.2.2.2.1
theorem dX12_learn_96 : decode cX12_learn 96 = .ok (.iload_n 1, 1) := gd_X12_learn_90.2.2.2.2.1
theorem dX12_learn_97 : decode cX12_learn 97 = .ok (.baload, 1) := gd_X12_learn_90.2.2.2.2.2.1
theorem dX12_learn_98 : decode cX12_learn 98 = .ok (.bastore, 1) := gd_X12_learn_90.2.2.2.2.2.2.1
theorem dX12_learn_99 : decode cX12_learn 99 = .ok (.iinc 1 1, 3) := gd_X12_learn_90.2.2.2.2.2.2.2.1
theorem dX12_learn_102 : decode cX12_learn 102 = .ok (.goto (-31), 3) := gd_X12_learn_90.2.2.2.2.2.2.2.2.1
theorem dX12_learn_105 : decode cX12_learn 105 = .ok (.aload_n 0, 1) := gd_X12_learn_90.2.2.2.2.2.2.2.2.2
theorem gd_X12_learn_106 : decode cX12_learn 106 = .ok (.getfield 109, 3) ∧ decode cX12_learn 109 = .ok (.aload_n 0, 1) ∧ decode cX12_learn 110 = .ok (.getfield 312, 3) ∧ decode cX12_learn 113 = .ok (.aload_n 0, 1) ∧ decode cX12_learn 114 = .ok (.getfield 244, 3) ∧ decode cX12_learn 117 = .ok (.iastore, 1) ∧ decode cX12_learn 118 = .ok (.aload_n 0, 1) ∧ decode cX12_learn 119 = .ok (.dup, 1) ∧ decode cX12_learn 120 = .ok (.getfield 312, 3) ∧ decode cX12_learn 123 = .ok (.iconst 1, 1) := by decide +kernel
theorem dX12_learn_106 : decode cX12_learn 106 = .ok (.getfield 109, 3) := gd_X12_learn_106.1
theorem dX12_learn_109 : decode cX12_learn 109 = .ok (.aload_n 0, 1) := gd_X12_learn_106.2.1
theorem dX12_learn_110 : decode cX12_learn 110 = .ok (.getfield 312, 3) := gd_X12_learn_106.2.2.1
theorem dX12_learn_113 : decode cX12_learn 113 = .ok (.aload_n 0, 1) := gd_X12_learn_106.2.2.2.1
theorem dX12_learn_114 : decode cX12_learn 114 = .ok (.getfield 244, 3) := gd_X12_learn_106.2.2.2.2.1
theorem dX12_learn_117 : decode cX12_learn 117 = .ok (.iastore, 1) := gd_X12_learn_106.2.2.2.2.2.1
theorem dX12_learn_118 : decode cX12_learn 118 = .ok (.aload_n 0, 1) := gd_X12_learn_106.2.2.2.2.2.2.1
theorem dX12_learn_119 : decode cX12_learn 119 = .ok (.dup, 1) := gd_X12_learn_106.2.2.2.2.2.2.2.1
theorem dX12_learn_120 : decode cX12_learn 120 = .ok (.getfield 312, 3) := gd_X12_learn_106.2.2.2.2.2.2.2.2.1
theorem dX12_learn_123 : decode cX12_learn 123 = .ok (.iconst 1, 1) := gd_X12_learn_106.2.2.2.2.2.2.2.2.2
theorem gd_X12_learn_124 : decode cX12_learn 124 = .ok (.iadd, 1) ∧ decode cX12_learn 125 = .ok (.putfield 312, 3) ∧ decode cX12_learn 128 = .ok (.aload_n 0, 1) ∧ decode cX12_learn 129 = .ok (.iconst 0, 1) ∧ decode cX12_learn 130 = .ok (.putfield 237, 3) ∧ decode cX12_learn 133 = .ok (.aload_n 0, 1) ∧ decode cX12_learn 134 = .ok (.getfield 312, 3) ∧ decode cX12_learn 137 = .ok (.iconst 1, 1) ∧ decode cX12_learn 138 = .ok (.isub, 1) ∧ decode cX12_learn 139 = .ok (.ireturn, 1) := by decide +kernel
theorem dX12_learn_124 : decode cX12_learn 124 = .ok (.iadd, 1) := gd_X12_learn_124.1
theorem dX12_learn_125 : decode cX12_learn 125 = .ok (.putfield 312, 3) := gd_X12_learn_124.2.1
theorem dX12_learn_128 : decode cX12_learn 128 = .ok (.aload_n 0, 1) := gd_X12_learn_124.2.2.1
theorem dX12_learn_129 : decode cX12_learn 129 = .ok (.iconst 0, 1) := gd_X12_learn_124.2.2.2.1
theorem dX12_learn_130 : decode cX12_learn 130 = .ok (.putfield 237, 3) := gd_X12_learn_124.2.2.2.2.1
theorem dX12_learn_133 : decode cX12_learn 133 = .ok (.aload_n 0, 1) := gd_X12_learn_124.2.2.2.2.2.1
theorem dX12_learn_134 : decode cX12_learn 134 = .ok (.getfield 312, 3) := gd_X12_learn_124.2.2.2.2.2.2.1
theorem dX12_learn_137 : decode cX12_learn 137 = .ok (.iconst 1, 1) := gd_X12_learn_124.2.2.2.2.2.2.2.1
theorem dX12_learn_138 : decode cX12_learn 138 = .ok (.isub, 1) := gd_X12_learn_124.2.2.2.2.2.2.2.2.1
theorem dX12_learn_139 : decode cX12_learn 139 = .ok (.ireturn, 1) := gd_X12_learn_124.2.2.2.2.2.2.2.2.2
theorem gd_X12_word_14 : decode cX12_word 14 = .ok (.iload_n 2, 1) ∧ decode cX12_word 15 = .ok (.iconst 0, 1) ∧ decode cX12_word 16 = .ok (.aload_n 0, 1) ∧ decode cX12_word 17 = .ok (.getfield 109, 3) ∧ decode cX12_word 20 = .ok (.iload_n 1, 1) ∧ decode cX12_word 21 = .ok (.iaload, 1) ∧ decode cX12_word 22 = .ok (.iconst 1, 1) ∧ decode cX12_word 23 = .ok (.isub, 1) ∧ decode cX12_word 24 = .ok (.invokestatic 226, 3) ∧ decode cX12_word 27 = .ok (.ifCond .eq 17, 3) := by decide +kernel
theorem dX12_word_14 : decode cX12_word 14 = .ok (.iload_n 2, 1) := gd_X12_word_14.1
theorem dX12_word_15 : decode cX12_word 15 = .ok (.iconst 0, 1) := gd_X12_word_14.2.1
theorem dX12_word_16 : decode cX12_word 16 = .ok (.aload_n 0, 1) := gd_X12_word_14.2.2.1
theorem dX12_word_17 : decode cX12_word 17 = .ok (.getfield 109, 3) := gd_X12_word_14.2.2.2.1
theorem dX12_word_20 : decode cX12_word 20 = .ok (.iload_n 1, 1) := gd_X12_word_14.2.2.2.2.1
theorem dX12_word_21 : decode cX12_word 21 = .ok (.iaload, 1) := gd_X12_word_14.2.2.2.2.2.1
theorem dX12_word_22 : decode cX12_word 22 = .ok (.iconst 1, 1) := gd_X12_word_14.2.2.2.2.2.2.1
theorem dX12_word_23 : decode cX12_word 23 = .ok (.isub, 1) := gd_X12_word_14.2.2.2.2.2.2.2.1
theorem dX12_word_24 : decode cX12_word 24 = .ok (.invokestatic 226, 3) := gd_X12_word_14.2.2.2.2.2.2.2.2.1
theorem dX12_word_27 : decode cX12_word 27 = .ok (.ifCond .eq 17, 3) := gd_X12_word_14.2.2.2.2.2.2.2.2.2
theorem gd_X12_word_30 : decode cX12_word 30 = .ok (.aload_n 0, 1) ∧ decode cX12_word 31 = .ok (.getfield 106, 3) ∧ decode cX12_word 34 = .ok (.bipush 24, 2) ∧ decode cX12_word 36 = .ok (.iload_n 1, 1) ∧ decode cX12_word 37 = .ok (.imul, 1) ∧ decode cX12_word 38 = .ok (.iload_n 2, 1) ∧ decode cX12_word 39 = .ok (.iadd, 1) ∧ decode cX12_word 40 = .ok (.baload, 1) ∧ decode cX12_word 41 = .ok (.goto 4, 3) ∧ decode cX12_hasForm 0 = .ok (.bipush 12, 2) := by decide +kernel
theorem dX12_word_30 : decode cX12_word 30 = .ok (.aload_n 0, 1) := gd_X12_word_30.1
theorem dX12_word_31 : decode cX12_word 31 = .ok (.getfield 106, 3) := gd_X12_word_30.2.1
theorem dX12_word_34 : decode cX12_word 34 = .ok (.bipush 24, 2) := gd_X12_word_30.2.2.1
theorem dX12_word_36 : decode cX12_word 36 = .ok (.iload_n 1, 1) := gd_X12_word_30.2.2.2.1
theorem dX12_word_37 : decode cX12_word 37 = .ok (.imul, 1) := gd_X12_word_30.2.2.2.2.1
theorem dX12_word_38 : decode cX12_word 38 = .ok (.iload_n 2, 1) := gd_X12_word_30.2.2.2.2.2.1
theorem dX12_word_39 : decode cX12_word 39 = .ok (.iadd, 1) := gd_X12_word_30.2.2.2.2.2.2.1
theorem dX12_word_40 : decode cX12_word 40 = .ok (.baload, 1) := gd_X12_word_30.2.2.2.2.2.2.2.1
theorem dX12_word_41 : decode cX12_word 41 = .ok (.goto 4, 3) := gd_X12_word_30.2.2.2.2.2.2.2.2.1
theorem dX12_hasForm_0 : decode cX12_hasForm 0 = .ok (.bipush 12, 2) := gd_X12_word_30.2.2.2.2.2.2.2.2.2
theorem gd_X12_hasForm_2 : decode cX12_hasForm 2 = .ok (.bipush 7, 2) ∧ decode cX12_hasForm 4 = .ok (.iload_n 1, 1) ∧ decode cX12_hasForm 5 = .ok (.imul, 1) ∧ decode cX12_hasForm 6 = .ok (.iload_n 2, 1) ∧ decode cX12_hasForm 7 = .ok (.iadd, 1) ∧ decode cX12_hasForm 8 = .ok (.imul, 1) ∧ decode cX12_hasForm 9 = .ok (.istore 6, 2) ∧ decode cX12_hasForm 11 = .ok (.iload 6, 2) ∧ decode cX12_hasForm 13 = .ok (.bipush 12, 2) ∧ decode cX12_hasForm 15 = .ok (.bipush 7, 2) := by decide +kernel
theorem dX12_hasForm_2 : decode cX12_hasForm 2 = .ok (.bipush 7, 2) := gd_X12_hasForm_2.1
theorem dX12_hasForm_4 : decode cX12_hasForm 4 = .ok (.iload_n 1, 1) := gd_X12_hasForm_2.2.1
theorem dX12_hasForm_5 : decode cX12_hasForm 5 = .ok (.imul, 1) := gd_X12_hasForm_2.2.2.1
theorem dX12_hasForm_6 : decode cX12_hasForm 6 = .ok (.iload_n 2, 1) := gd_X12_hasForm_2.2.2.2.1
theorem dX12_hasForm_7 : decode cX12_hasForm 7 = .ok (.iadd, 1) := gd_X12_hasForm_2.2.2.2.2.1
theorem dX12_hasForm_8 : decode cX12_hasForm 8 = .ok (.imul, 1) := gd_X12_hasForm_2.2.2.2.2.2.1
theorem dX12_hasForm_9 : decode cX12_hasForm 9 = .ok (.istore 6, 2) := gd_X12_hasForm_2.2.2.2.2.2.2.1
theorem dX12_hasForm_11 : decode cX12_hasForm 11 = .ok (.iload 6, 2) := gd_X12_hasForm_2.2.2.2.2.2.2.2.1
theorem dX12_hasForm_13 : decode cX12_hasForm 13 = .ok (.bipush 12, 2) := gd_X12_hasForm_2.2.2.2.2.2.2.2.2.1
theorem dX12_hasForm_15 : decode cX12_hasForm 15 = .ok (.bipush 7, 2) := gd_X12_hasForm_2.2.2.2.2.2.2.2.2.2
theorem gd_X12_hasForm_17 : decode cX12_hasForm 17 = .ok (.iload_n 1, 1) ∧ decode cX12_hasForm 18 = .ok (.imul, 1) ∧ decode cX12_hasForm 19 = .ok (.iload_n 2, 1) ∧ decode cX12_hasForm 20 = .ok (.iadd, 1) ∧ decode cX12_hasForm 21 = .ok (.imul, 1) ∧ decode cX12_hasForm 22 = .ok (.aload_n 0, 1) ∧ decode cX12_hasForm 23 = .ok (.getfield 119, 3) ∧ decode cX12_hasForm 26 = .ok (.bipush 7, 2) ∧ decode cX12_hasForm 28 = .ok (.iload_n 1, 1) ∧ decode cX12_hasForm 29 = .ok (.imul, 1) := by decide +kernel
theorem dX12_hasForm_17 : decode cX12_hasForm 17 = .ok (.iload_n 1, 1) := gd_X12_hasForm_17.1
theorem dX12_hasForm_18 : decode cX12_hasForm 18 = .ok (.imul, 1) := gd_X12_hasForm_17.2.1
theorem dX12_hasForm_19 : decode cX12_hasForm 19 = .ok (.iload_n 2, 1) := gd_X12_hasForm_17.2.2.1
theorem dX12_hasForm_20 : decode cX12_hasForm 20 = .ok (.iadd, 1) := gd_X12_hasForm_17.2.2.2.1
theorem dX12_hasForm_21 : decode cX12_hasForm 21 = .ok (.imul, 1) := gd_X12_hasForm_17.2.2.2.2.1
theorem dX12_hasForm_22 : decode cX12_hasForm 22 = .ok (.aload_n 0, 1) := gd_X12_hasForm_17.2.2.2.2.2.1
theorem dX12_hasForm_23 : decode cX12_hasForm 23 = .ok (.getfield 119, 3) := gd_X12_hasForm_17.2.2.2.2.2.2.1
theorem dX12_hasForm_26 : decode cX12_hasForm 26 = .ok (.bipush 7, 2) := gd_X12_hasForm_17.2.2.2.2.2.2.2.1
theorem dX12_hasForm_28 : decode cX12_hasForm 28 = .ok (.iload_n 1, 1) := gd_X12_hasForm_17.2.2.2.2.2.2.2.2.1
theorem dX12_hasForm_29 : decode cX12_hasForm 29 = .ok (.imul, 1) := gd_X12_hasForm_17.2.2.2.2.2.2.2.2.2
theorem gd_X12_hasForm_30 : decode cX12_hasForm 30 = .ok (.iload_n 2, 1) ∧ decode cX12_hasForm 31 = .ok (.iadd, 1) ∧ decode cX12_hasForm 32 = .ok (.iaload, 1) ∧ decode cX12_hasForm 33 = .ok (.iadd, 1) ∧ decode cX12_hasForm 34 = .ok (.if_icmp .ge 38, 3) ∧ decode cX12_hasForm 37 = .ok (.aload_n 0, 1) ∧ decode cX12_hasForm 38 = .ok (.getfield 113, 3) ∧ decode cX12_hasForm 41 = .ok (.bipush 24, 2) ∧ decode cX12_hasForm 43 = .ok (.iload 6, 2) ∧ decode cX12_hasForm 45 = .ok (.imul, 1) := by decide +kernel
theorem dX12_hasForm_30 : decode cX12_hasForm 30 = .ok (.iload_n 2, 1) := gd_X12_hasForm_30.1
theorem dX12_hasForm_31 : decode cX12_hasForm 31 = .ok (.iadd, 1) := gd_X12_hasForm_30.2.1
theorem dX12_hasForm_32 : decode cX12_hasForm 32 = .ok (.iaload, 1) := gd_X12_hasForm_30.2.2.1
theorem dX12_hasForm_33 : decode cX12_hasForm 33 = .ok (.iadd, 1) := gd_X12_hasForm_30.2.2.2.1
theorem dX12_hasForm_34 : decode cX12_hasForm 34 = .ok (.if_icmp .ge 38, 3) := gd_X12_hasForm_30.2.2.2.2.1
theorem dX12_hasForm_37 : decode cX12_hasForm 37 = .ok (.aload_n 0, 1) := gd_X12_hasForm_30.2.2.2.2.2.1
theorem dX12_hasForm_38 : decode cX12_hasForm 38 = .ok (.getfield 113, 3) := gd_X12_hasForm_30.2.2.2.2.2.2.1
theorem dX12_hasForm_41 : decode cX12_hasForm 41 = .ok (.bipush 24, 2) := gd_X12_hasForm_30.2.2.2.2.2.2.2.1
theorem dX12_hasForm_43 : decode cX12_hasForm 43 = .ok (.iload 6, 2) := gd_X12_hasForm_30.2.2.2.2.2.2.2.2.1
theorem dX12_hasForm_45 : decode cX12_hasForm 45 = .ok (.imul, 1) := gd_X12_hasForm_30.2.2.2.2.2.2.2.2.2
theorem gd_X12_hasForm_46 : decode cX12_hasForm 46 = .ok (.aload_n 0, 1) ∧ decode cX12_hasForm 47 = .ok (.getfield 116, 3) ∧ decode cX12_hasForm 50 = .ok (.iload 6, 2) ∧ decode cX12_hasForm 52 = .ok (.iaload, 1) ∧ decode cX12_hasForm 53 = .ok (.aload_n 3, 1) ∧ decode cX12_hasForm 54 = .ok (.iload 4, 2) ∧ decode cX12_hasForm 56 = .ok (.iload 5, 2) ∧ decode cX12_hasForm 58 = .ok (.invokestatic 273, 3) ∧ decode cX12_hasForm 61 = .ok (.ifCond .eq 5, 3) ∧ decode cX12_hasForm 64 = .ok (.iconst 1, 1) := by decide +kernel
theorem dX12_hasForm_46 : decode cX12_hasForm 46 = .ok (.aload_n 0, 1) := gd_X12_hasForm_46.1
theorem dX12_hasForm_47 : decode cX12_hasForm 47 = .ok (.getfield 116, 3) := gd_X12_hasForm_46.2.1
theorem dX12_hasForm_50 : decode cX12_hasForm 50 = .ok (.iload 6, 2) := gd_X12_hasForm_46.2.2.1
theorem dX12_hasForm_52 : decode cX12_hasForm 52 = .ok (.iaload, 1) := gd_X12_hasForm_46.2.2.2.1
theorem dX12_hasForm_53 : decode cX12_hasForm 53 = .ok (.aload_n 3, 1) := gd_X12_hasForm_46.2.2.2.2.1
theorem dX12_hasForm_54 : decode cX12_hasForm 54 = .ok (.iload 4, 2) := gd_X12_hasForm_46.2.2.2.2.2.1
theorem dX12_hasForm_56 : decode cX12_hasForm 56 = .ok (.iload 5, 2) := gd_X12_hasForm_46.2.2.2.2.2.2.1
theorem dX12_hasForm_58 : decode cX12_hasForm 58 = .ok (.invokestatic 273, 3) := gd_X12_hasForm_46.2.2.2.2.2.2.2.1
theorem dX12_hasForm_61 : decode cX12_hasForm 61 = .ok (.ifCond .eq 5, 3) := gd_X12_hasForm_46.2.2.2.2.2.2.2.2.1
theorem dX12_hasForm_64 : decode cX12_hasForm 64 = .ok (.iconst 1, 1) := gd_X12_hasForm_46.2.2.2.2.2.2.2.2.2
theorem gd_X12_hasForm_65 : decode cX12_hasForm 65 = .ok (.ireturn, 1) ∧ decode cX12_hasForm 66 = .ok (.iinc 6 1, 3) ∧ decode cX12_hasForm 69 = .ok (.goto (-58), 3) ∧ decode cX12_hasForm 72 = .ok (.iconst 0, 1) ∧ decode cX12_hasForm 73 = .ok (.ireturn, 1) ∧ decode cX12_old 14 = .ok (.aload_n 0, 1) ∧ decode cX12_old 15 = .ok (.getfield 122, 3) ∧ decode cX12_old 18 = .ok (.iload_n 1, 1) ∧ decode cX12_old 19 = .ok (.iaload, 1) ∧ decode cX12_old 20 = .ok (.goto 4, 3) := by decide +kernel
theorem dX12_hasForm_65 : decode cX12_hasForm 65 = .ok (.ireturn, 1) := gd_X12_hasForm_65.1
theorem dX12_hasForm_66 : decode cX12_hasForm 66 = .ok (.iinc 6 1, 3) := gd_X12_hasForm_65.2.1
theorem dX12_hasForm_69 : decode cX12_hasForm 69 = .ok (.goto (-58), 3) := gd_X12_hasForm_65.2.2.1
theorem dX12_hasForm_72 : decode cX12_hasForm 72 = .ok (.iconst 0, 1) := gd_X12_hasForm_65.2.2.2.1
theorem dX12_hasForm_73 : decode cX12_hasForm 73 = .ok (.ireturn, 1) := gd_X12_hasForm_65.2.2.2.2.1
theorem dX12_old_14 : decode cX12_old 14 = .ok (.aload_n 0, 1) := gd_X12_hasForm_65.2.2.2.2.2.1
theorem dX12_old_15 : decode cX12_old 15 = .ok (.getfield 122, 3) := gd_X12_hasForm_65.2.2.2.2.2.2.1
theorem dX12_old_18 : decode cX12_old 18 = .ok (.iload_n 1, 1) := gd_X12_hasForm_65.2.2.2.2.2.2.2.1
theorem dX12_old_19 : decode cX12_old 19 = .ok (.iaload, 1) := gd_X12_hasForm_65.2.2.2.2.2.2.2.2.1
theorem dX12_old_20 : decode cX12_old 20 = .ok (.goto 4, 3) := gd_X12_hasForm_65.2.2.2.2.2.2.2.2.2
theorem gd_X12_collide_0 : decode cX12_collide 0 = .ok (.bipush 12, 2) ∧ decode cX12_collide 2 = .ok (.bipush 7, 2) ∧ decode cX12_collide 4 = .ok (.iload_n 1, 1) ∧ decode cX12_collide 5 = .ok (.imul, 1) ∧ decode cX12_collide 6 = .ok (.iload_n 3, 1) ∧ decode cX12_collide 7 = .ok (.iadd, 1) ∧ decode cX12_collide 8 = .ok (.imul, 1) ∧ decode cX12_collide 9 = .ok (.istore 4, 2) ∧ decode cX12_collide 11 = .ok (.iload 4, 2) ∧ decode cX12_collide 13 = .ok (.bipush 12, 2) := by decide +kernel
theorem dX12_collide_0 : decode cX12_collide 0 = .ok (.bipush 12, 2) := gd_X12_collide_0.1
theorem dX12_collide_2 : decode cX12_collide 2 = .ok (.bipush 7, 2) := gd_X12_collide_0.2.1
theorem dX12_collide_4 : decode cX12_collide 4 = .ok (.iload_n 1, 1) := gd_X12_collide_0.2.2.1
theorem dX12_collide_5 : decode cX12_collide 5 = .ok (.imul, 1) := gd_X12_collide_0.2.2.2.1
theorem dX12_collide_6 : decode cX12_collide 6 = .ok (.iload_n 3, 1) := gd_X12_collide_0.2.2.2.2.1
theorem dX12_collide_7 : decode cX12_collide 7 = .ok (.iadd, 1) := gd_X12_collide_0.2.2.2.2.2.1
theorem dX12_collide_8 : decode cX12_collide 8 = .ok (.imul, 1) := gd_X12_collide_0.2.2.2.2.2.2.1
theorem dX12_collide_9 : decode cX12_collide 9 = .ok (.istore 4, 2) := gd_X12_collide_0.2.2.2.2.2.2.2.1
theorem dX12_collide_11 : decode cX12_collide 11 = .ok (.iload 4, 2) := gd_X12_collide_0.2.2.2.2.2.2.2.2.1
theorem dX12_collide_13 : decode cX12_collide 13 = .ok (.bipush 12, 2) := gd_X12_collide_0.2.2.2.2.2.2.2.2.2
theorem gd_X12_collide_15 : decode cX12_collide 15 = .ok (.bipush 7, 2) ∧ decode cX12_collide 17 = .ok (.iload_n 1, 1) ∧ decode cX12_collide 18 = .ok (.imul, 1) ∧ decode cX12_collide 19 = .ok (.iload_n 3, 1) ∧ decode cX12_collide 20 = .ok (.iadd, 1) ∧ decode cX12_collide 21 = .ok (.imul, 1) ∧ decode cX12_collide 22 = .ok (.aload_n 0, 1) ∧ decode cX12_collide 23 = .ok (.getfield 119, 3) ∧ decode cX12_collide 26 = .ok (.bipush 7, 2) ∧ decode cX12_collide 28 = .ok (.iload_n 1, 1) := by decide +kernel
theorem dX12_collide_15 : decode cX12_collide 15 = .ok (.bipush 7, 2) := gd_X12_collide_15.1
theorem dX12_collide_17 : decode cX12_collide 17 = .ok (.iload_n 1, 1) := gd_X12_collide_15.2.1
theorem dX12_collide_18 : decode cX12_collide 18 = .ok (.imul, 1) := gd_X12_collide_15.2.2.1
theorem dX12_collide_19 : decode cX12_collide 19 = .ok (.iload_n 3, 1) := gd_X12_collide_15.2.2.2.1
theorem dX12_collide_20 : decode cX12_collide 20 = .ok (.iadd, 1) := gd_X12_collide_15.2.2.2.2.1
theorem dX12_collide_21 : decode cX12_collide 21 = .ok (.imul, 1) := gd_X12_collide_15.2.2.2.2.2.1
theorem dX12_collide_22 : decode cX12_collide 22 = .ok (.aload_n 0, 1) := gd_X12_collide_15.2.2.2.2.2.2.1
theorem dX12_collide_23 : decode cX12_collide 23 = .ok (.getfield 119, 3) := gd_X12_collide_15.2.2.2.2.2.2.2.1
theorem dX12_collide_26 : decode cX12_collide 26 = .ok (.bipush 7, 2) := gd_X12_collide_15.2.2.2.2.2.2.2.2.1
theorem dX12_collide_28 : decode cX12_collide 28 = .ok (.iload_n 1, 1) := gd_X12_collide_15.2.2.2.2.2.2.2.2.2
theorem gd_X12_collide_29 : decode cX12_collide 29 = .ok (.imul, 1) ∧ decode cX12_collide 30 = .ok (.iload_n 3, 1) ∧ decode cX12_collide 31 = .ok (.iadd, 1) ∧ decode cX12_collide 32 = .ok (.iaload, 1) ∧ decode cX12_collide 33 = .ok (.iadd, 1) ∧ decode cX12_collide 34 = .ok (.if_icmp .ge 36, 3) ∧ decode cX12_collide 37 = .ok (.aload_n 0, 1) ∧ decode cX12_collide 38 = .ok (.iload_n 2, 1) ∧ decode cX12_collide 39 = .ok (.iload_n 3, 1) ∧ decode cX12_collide 40 = .ok (.aload_n 0, 1) := by decide +kernel
theorem dX12_collide_29 : decode cX12_collide 29 = .ok (.imul, 1) := gd_X12_collide_29.1
theorem dX12_collide_30 : decode cX12_collide 30 = .ok (.iload_n 3, 1) := gd_X12_collide_29.2.1
theorem dX12_collide_31 : decode cX12_collide 31 = .ok (.iadd, 1) := gd_X12_collide_29.2.2.1
theorem dX12_collide_32 : decode cX12_collide 32 = .ok (.iaload, 1) := gd_X12_collide_29.2.2.2.1
theorem dX12_collide_33 : decode cX12_collide 33 = .ok (.iadd, 1) := gd_X12_collide_29.2.2.2.2.1
theorem dX12_collide_34 : decode cX12_collide 34 = .ok (.if_icmp .ge 36, 3) := gd_X12_collide_29.2.2.2.2.2.1
theorem dX12_collide_37 : decode cX12_collide 37 = .ok (.aload_n 0, 1) := gd_X12_collide_29.2.2.2.2.2.2.1
theorem dX12_collide_38 : decode cX12_collide 38 = .ok (.iload_n 2, 1) := gd_X12_collide_29.2.2.2.2.2.2.2.1
theorem dX12_collide_39 : decode cX12_collide 39 = .ok (.iload_n 3, 1) := gd_X12_collide_29.2.2.2.2.2.2.2.2.1
theorem dX12_collide_40 : decode cX12_collide 40 = .ok (.aload_n 0, 1) := gd_X12_collide_29.2.2.2.2.2.2.2.2.2
theorem gd_X12_collide_41 : decode cX12_collide 41 = .ok (.getfield 113, 3) ∧ decode cX12_collide 44 = .ok (.bipush 24, 2) ∧ decode cX12_collide 46 = .ok (.iload 4, 2) ∧ decode cX12_collide 48 = .ok (.imul, 1) ∧ decode cX12_collide 49 = .ok (.aload_n 0, 1) ∧ decode cX12_collide 50 = .ok (.getfield 116, 3) ∧ decode cX12_collide 53 = .ok (.iload 4, 2) ∧ decode cX12_collide 55 = .ok (.iaload, 1) ∧ decode cX12_collide 56 = .ok (.invokevirtual 321, 3) ∧ decode cX12_collide 59 = .ok (.ifCond .eq 5, 3) := by decide +kernel
theorem dX12_collide_41 : decode cX12_collide 41 = .ok (.getfield 113, 3) := gd_X12_collide_41.1
theorem dX12_collide_44 : decode cX12_collide 44 = .ok (.bipush 24, 2) := gd_X12_collide_41.2.1
theorem dX12_collide_46 : decode cX12_collide 46 = .ok (.iload 4, 2) := gd_X12_collide_41.2.2.1
theorem dX12_collide_48 : decode cX12_collide 48 = .ok (.imul, 1) := gd_X12_collide_41.2.2.2.1
theorem dX12_collide_49 : decode cX12_collide 49 = .ok (.aload_n 0, 1) := gd_X12_collide_41.2.2.2.2.1
theorem dX12_collide_50 : decode cX12_collide 50 = .ok (.getfield 116, 3) := gd_X12_collide_41.2.2.2.2.2.1
theorem dX12_collide_53 : decode cX12_collide 53 = .ok (.iload 4, 2) := gd_X12_collide_41.2.2.2.2.2.2.1
theorem dX12_collide_55 : decode cX12_collide 55 = .ok (.iaload, 1) := gd_X12_collide_41.2.2.2.2.2.2.2.1
theorem dX12_collide_56 : decode cX12_collide 56 = .ok (.invokevirtual 321, 3) := gd_X12_collide_41.2.2.2.2.2.2.2.2.1
theorem dX12_collide_59 : decode cX12_collide 59 = .ok (.ifCond .eq 5, 3) := gd_X12_collide_41.2.2.2.2.2.2.2.2.2
theorem gd_X12_collide_62 : decode cX12_collide 62 = .ok (.iconst 1, 1) ∧ decode cX12_collide 63 = .ok (.ireturn, 1) ∧ decode cX12_collide 64 = .ok (.iinc 4 1, 3) ∧ decode cX12_collide 67 = .ok (.goto (-56), 3) ∧ decode cX12_collide 70 = .ok (.iconst 0, 1) ∧ decode cX12_collide 71 = .ok (.ireturn, 1) ∧ decode cX12_collision 14 = .ok (.aload_n 0, 1) ∧ decode cX12_collision 15 = .ok (.getfield 128, 3) ∧ decode cX12_collision 18 = .ok (.iload_n 1, 1) ∧ decode cX12_collision 19 = .ok (.iaload, 1) := by decide +kernel
theorem dX12_collide_62 : decode cX12_collide 62 = .ok (.iconst 1, 1) := gd_X12_collide_62.1
theorem dX12_collide_63 : decode cX12_collide 63 = .ok (.ireturn, 1) := gd_X12_collide_62.2.1
theorem dX12_collide_64 : decode cX12_collide 64 = .ok (.iinc 4 1, 3) := gd_X12_collide_62.2.2.1
theorem dX12_collide_67 : decode cX12_collide 67 = .ok (.goto (-56), 3) := gd_X12_collide_62.2.2.2.1
theorem dX12_collide_70 : decode cX12_collide 70 = .ok (.iconst 0, 1) := gd_X12_collide_62.2.2.2.2.1
theorem dX12_collide_71 : decode cX12_collide 71 = .ok (.ireturn, 1) := gd_X12_collide_62.2.2.2.2.2.1
theorem dX12_collision_14 : decode cX12_collision 14 = .ok (.aload_n 0, 1) := gd_X12_collide_62.2.2.2.2.2.2.1
theorem dX12_collision_15 : decode cX12_collision 15 = .ok (.getfield 128, 3) := gd_X12_collide_62.2.2.2.2.2.2.2.1
theorem dX12_collision_18 : decode cX12_collision 18 = .ok (.iload_n 1, 1) := gd_X12_collide_62.2.2.2.2.2.2.2.2.1
theorem dX12_collision_19 : decode cX12_collision 19 = .ok (.iaload, 1) := gd_X12_collide_62.2.2.2.2.2.2.2.2.2
theorem gd_X12_collision_20 : decode cX12_collision 20 = .ok (.goto 4, 3) ∧ decode cX12_rhyme 0 = .ok (.iload_n 2, 1) ∧ decode cX12_rhyme 1 = .ok (.iconst 2, 1) ∧ decode cX12_rhyme 2 = .ok (.if_icmp .le 35, 3) ∧ decode cX12_rhyme 5 = .ok (.iload 5, 2) ∧ decode cX12_rhyme 7 = .ok (.iconst 2, 1) ∧ decode cX12_rhyme 8 = .ok (.if_icmp .le 29, 3) ∧ decode cX12_rhyme 11 = .ok (.aload_n 0, 1) ∧ decode cX12_rhyme 12 = .ok (.iload_n 1, 1) ∧ decode cX12_rhyme 13 = .ok (.iload_n 2, 1) := by decide +kernel
theorem dX12_collision_20 : decode cX12_collision 20 = .ok (.goto 4, 3) := gd_X12_collision_20.1
theorem dX12_rhyme_0 : decode cX12_rhyme 0 = .ok (.iload_n 2, 1) := gd_X12_collision_20.2.1
theorem dX12_rhyme_1 : decode cX12_rhyme 1 = .ok (.iconst 2, 1) := gd_X12_collision_20.2.2.1
theorem dX12_rhyme_2 : decode cX12_rhyme 2 = .ok (.if_icmp .le 35, 3) := gd_X12_collision_20.2.2.2.1
theorem dX12_rhyme_5 : decode cX12_rhyme 5 = .ok (.iload 5, 2) := gd_X12_collision_20.2.2.2.2.1
theorem dX12_rhyme_7 : decode cX12_rhyme 7 = .ok (.iconst 2, 1) := gd_X12_collision_20.2.2.2.2.2.1
theorem dX12_rhyme_8 : decode cX12_rhyme 8 = .ok (.if_icmp .le 29, 3) := gd_X12_collision_20.2.2.2.2.2.2.1
theorem dX12_rhyme_11 : decode cX12_rhyme 11 = .ok (.aload_n 0, 1) := gd_X12_collision_20.2.2.2.2.2.2.2.1
theorem dX12_rhyme_12 : decode cX12_rhyme 12 = .ok (.iload_n 1, 1) := gd_X12_collision_20.2.2.2.2.2.2.2.2.1
theorem dX12_rhyme_13 : decode cX12_rhyme 13 = .ok (.iload_n 2, 1) := gd_X12_collision_20.2.2.2.2.2.2.2.2.2
theorem gd_X12_rhyme_14 : decode cX12_rhyme 14 = .ok (.iadd, 1) ∧ decode cX12_rhyme 15 = .ok (.iconst 3, 1) ∧ decode cX12_rhyme 16 = .ok (.isub, 1) ∧ decode cX12_rhyme 17 = .ok (.iconst 3, 1) ∧ decode cX12_rhyme 18 = .ok (.aload_n 3, 1) ∧ decode cX12_rhyme 19 = .ok (.iload 4, 2) ∧ decode cX12_rhyme 21 = .ok (.iload 5, 2) ∧ decode cX12_rhyme 23 = .ok (.iadd, 1) ∧ decode cX12_rhyme 24 = .ok (.iconst 3, 1) ∧ decode cX12_rhyme 25 = .ok (.isub, 1) := by decide +kernel
theorem dX12_rhyme_14 : decode cX12_rhyme 14 = .ok (.iadd, 1) := gd_X12_rhyme_14.1
theorem dX12_rhyme_15 : decode cX12_rhyme 15 = .ok (.iconst 3, 1) := gd_X12_rhyme_14.2.1
theorem dX12_rhyme_16 : decode cX12_rhyme 16 = .ok (.isub, 1) := gd_X12_rhyme_14.2.2.1
theorem dX12_rhyme_17 : decode cX12_rhyme 17 = .ok (.iconst 3, 1) := gd_X12_rhyme_14.2.2.2.1
theorem dX12_rhyme_18 : decode cX12_rhyme 18 = .ok (.aload_n 3, 1) := gd_X12_rhyme_14.2.2.2.2.1
theorem dX12_rhyme_19 : decode cX12_rhyme 19 = .ok (.iload 4, 2) := gd_X12_rhyme_14.2.2.2.2.2.1
theorem dX12_rhyme_21 : decode cX12_rhyme 21 = .ok (.iload 5, 2) := gd_X12_rhyme_14.2.2.2.2.2.2.1
theorem dX12_rhyme_23 : decode cX12_rhyme 23 = .ok (.iadd, 1) := gd_X12_rhyme_14.2.2.2.2.2.2.2.1
theorem dX12_rhyme_24 : decode cX12_rhyme 24 = .ok (.iconst 3, 1) := gd_X12_rhyme_14.2.2.2.2.2.2.2.2.1
theorem dX12_rhyme_25 : decode cX12_rhyme 25 = .ok (.isub, 1) := gd_X12_rhyme_14.2.2.2.2.2.2.2.2.2
theorem gd_X12_rhyme_26 : decode cX12_rhyme 26 = .ok (.iconst 3, 1) ∧ decode cX12_rhyme 27 = .ok (.invokestatic 273, 3) ∧ decode cX12_rhyme 30 = .ok (.ifCond .eq 7, 3) ∧ decode cX12_rhyme 33 = .ok (.iconst 1, 1) ∧ decode cX12_rhyme 34 = .ok (.goto 4, 3) ∧ decode cX12_rhyme 37 = .ok (.iconst 0, 1) ∧ decode cX12_rhyme 38 = .ok (.ireturn, 1) ∧ decode cX12_rhymeAt 0 = .ok (.bipush 12, 2) ∧ decode cX12_rhymeAt 2 = .ok (.bipush 7, 2) ∧ decode cX12_rhymeAt 4 = .ok (.iload_n 1, 1) := by decide +kernel
theorem dX12_rhyme_26 : decode cX12_rhyme 26 = .ok (.iconst 3, 1) := gd_X12_rhyme_26.1
theorem dX12_rhyme_27 : decode cX12_rhyme 27 = .ok (.invokestatic 273, 3) := gd_X12_rhyme_26.2.1
theorem dX12_rhyme_30 : decode cX12_rhyme 30 = .ok (.ifCond .eq 7, 3) := gd_X12_rhyme_26.2.2.1
theorem dX12_rhyme_33 : decode cX12_rhyme 33 = .ok (.iconst 1, 1) := gd_X12_rhyme_26.2.2.2.1
theorem dX12_rhyme_34 : decode cX12_rhyme 34 = .ok (.goto 4, 3) := gd_X12_rhyme_26.2.2.2.2.1
theorem dX12_rhyme_37 : decode cX12_rhyme 37 = .ok (.iconst 0, 1) := gd_X12_rhyme_26.2.2.2.2.2.1
theorem dX12_rhyme_38 : decode cX12_rhyme 38 = .ok (.ireturn, 1) := gd_X12_rhyme_26.2.2.2.2.2.2.1
theorem dX12_rhymeAt_0 : decode cX12_rhymeAt 0 = .ok (.bipush 12, 2) := gd_X12_rhyme_26.2.2.2.2.2.2.2.1
theorem dX12_rhymeAt_2 : decode cX12_rhymeAt 2 = .ok (.bipush 7, 2) := gd_X12_rhyme_26.2.2.2.2.2.2.2.2.1
theorem dX12_rhymeAt_4 : decode cX12_rhymeAt 4 = .ok (.iload_n 1, 1) := gd_X12_rhyme_26.2.2.2.2.2.2.2.2.2
theorem gd_X12_rhymeAt_5 : decode cX12_rhymeAt 5 = .ok (.imul, 1) ∧ decode cX12_rhymeAt 6 = .ok (.iload_n 3, 1) ∧ decode cX12_rhymeAt 7 = .ok (.iadd, 1) ∧ decode cX12_rhymeAt 8 = .ok (.imul, 1) ∧ decode cX12_rhymeAt 9 = .ok (.istore 4, 2) ∧ decode cX12_rhymeAt 11 = .ok (.iload 4, 2) ∧ decode cX12_rhymeAt 13 = .ok (.bipush 12, 2) ∧ decode cX12_rhymeAt 15 = .ok (.bipush 7, 2) ∧ decode cX12_rhymeAt 17 = .ok (.iload_n 1, 1) ∧ decode cX12_rhymeAt 18 = .ok (.imul, 1) := by decide +kernel
theorem dX12_rhymeAt_5 : decode cX12_rhymeAt 5 = .ok (.imul, 1) := gd_X12_rhymeAt_5.1
theorem dX12_rhymeAt_6 : decode cX12_rhymeAt 6 = .ok (.iload_n 3, 1) := gd_X12_rhymeAt_5.2.1
theorem dX12_rhymeAt_7 : decode cX12_rhymeAt 7 = .ok (.iadd, 1) := gd_X12_rhymeAt_5.2.2.1
theorem dX12_rhymeAt_8 : decode cX12_rhymeAt 8 = .ok (.imul, 1) := gd_X12_rhymeAt_5.2.2.2.1
theorem dX12_rhymeAt_9 : decode cX12_rhymeAt 9 = .ok (.istore 4, 2) := gd_X12_rhymeAt_5.2.2.2.2.1
theorem dX12_rhymeAt_11 : decode cX12_rhymeAt 11 = .ok (.iload 4, 2) := gd_X12_rhymeAt_5.2.2.2.2.2.1
theorem dX12_rhymeAt_13 : decode cX12_rhymeAt 13 = .ok (.bipush 12, 2) := gd_X12_rhymeAt_5.2.2.2.2.2.2.1
theorem dX12_rhymeAt_15 : decode cX12_rhymeAt 15 = .ok (.bipush 7, 2) := gd_X12_rhymeAt_5.2.2.2.2.2.2.2.1
theorem dX12_rhymeAt_17 : decode cX12_rhymeAt 17 = .ok (.iload_n 1, 1) := gd_X12_rhymeAt_5.2.2.2.2.2.2.2.2.1
theorem dX12_rhymeAt_18 : decode cX12_rhymeAt 18 = .ok (.imul, 1) := gd_X12_rhymeAt_5.2.2.2.2.2.2.2.2.2
theorem gd_X12_rhymeAt_19 : decode cX12_rhymeAt 19 = .ok (.iload_n 3, 1) ∧ decode cX12_rhymeAt 20 = .ok (.iadd, 1) ∧ decode cX12_rhymeAt 21 = .ok (.imul, 1) ∧ decode cX12_rhymeAt 22 = .ok (.aload_n 0, 1) ∧ decode cX12_rhymeAt 23 = .ok (.getfield 119, 3) ∧ decode cX12_rhymeAt 26 = .ok (.bipush 7, 2) ∧ decode cX12_rhymeAt 28 = .ok (.iload_n 1, 1) ∧ decode cX12_rhymeAt 29 = .ok (.imul, 1) ∧ decode cX12_rhymeAt 30 = .ok (.iload_n 3, 1) ∧ decode cX12_rhymeAt 31 = .ok (.iadd, 1) := by decide +kernel
theorem dX12_rhymeAt_19 : decode cX12_rhymeAt 19 = .ok (.iload_n 3, 1) := gd_X12_rhymeAt_19.1
theorem dX12_rhymeAt_20 : decode cX12_rhymeAt 20 = .ok (.iadd, 1) := gd_X12_rhymeAt_19.2.1
theorem dX12_rhymeAt_21 : decode cX12_rhymeAt 21 = .ok (.imul, 1) := gd_X12_rhymeAt_19.2.2.1
theorem dX12_rhymeAt_22 : decode cX12_rhymeAt 22 = .ok (.aload_n 0, 1) := gd_X12_rhymeAt_19.2.2.2.1
theorem dX12_rhymeAt_23 : decode cX12_rhymeAt 23 = .ok (.getfield 119, 3) := gd_X12_rhymeAt_19.2.2.2.2.1
theorem dX12_rhymeAt_26 : decode cX12_rhymeAt 26 = .ok (.bipush 7, 2) := gd_X12_rhymeAt_19.2.2.2.2.2.1
theorem dX12_rhymeAt_28 : decode cX12_rhymeAt 28 = .ok (.iload_n 1, 1) := gd_X12_rhymeAt_19.2.2.2.2.2.2.1
theorem dX12_rhymeAt_29 : decode cX12_rhymeAt 29 = .ok (.imul, 1) := gd_X12_rhymeAt_19.2.2.2.2.2.2.2.1
theorem dX12_rhymeAt_30 : decode cX12_rhymeAt 30 = .ok (.iload_n 3, 1) := gd_X12_rhymeAt_19.2.2.2.2.2.2.2.2.1
theorem dX12_rhymeAt_31 : decode cX12_rhymeAt 31 = .ok (.iadd, 1) := gd_X12_rhymeAt_19.2.2.2.2.2.2.2.2.2
theorem gd_X12_rhymeAt_32 : decode cX12_rhymeAt 32 = .ok (.iaload, 1) ∧ decode cX12_rhymeAt 33 = .ok (.iadd, 1) ∧ decode cX12_rhymeAt 34 = .ok (.if_icmp .ge 92, 3) ∧ decode cX12_rhymeAt 37 = .ok (.bipush 12, 2) ∧ decode cX12_rhymeAt 39 = .ok (.bipush 7, 2) ∧ decode cX12_rhymeAt 41 = .ok (.iload_n 2, 1) ∧ decode cX12_rhymeAt 42 = .ok (.imul, 1) ∧ decode cX12_rhymeAt 43 = .ok (.iload_n 3, 1) ∧ decode cX12_rhymeAt 44 = .ok (.iadd, 1) ∧ decode cX12_rhymeAt 45 = .ok (.imul, 1) := by decide +kernel
theorem dX12_rhymeAt_32 : decode cX12_rhymeAt 32 = .ok (.iaload, 1) := gd_X12_rhymeAt_32.1
theorem dX12_rhymeAt_33 : decode cX12_rhymeAt 33 = .ok (.iadd, 1) := gd_X12_rhymeAt_32.2.1
theorem dX12_rhymeAt_34 : decode cX12_rhymeAt 34 = .ok (.if_icmp .ge 92, 3) := gd_X12_rhymeAt_32.2.2.1
theorem dX12_rhymeAt_37 : decode cX12_rhymeAt 37 = .ok (.bipush 12, 2) := gd_X12_rhymeAt_32.2.2.2.1
theorem dX12_rhymeAt_39 : decode cX12_rhymeAt 39 = .ok (.bipush 7, 2) := gd_X12_rhymeAt_32.2.2.2.2.1
theorem dX12_rhymeAt_41 : decode cX12_rhymeAt 41 = .ok (.iload_n 2, 1) := gd_X12_rhymeAt_32.2.2.2.2.2.1
theorem dX12_rhymeAt_42 : decode cX12_rhymeAt 42 = .ok (.imul, 1) := gd_X12_rhymeAt_32.2.2.2.2.2.2.1
theorem dX12_rhymeAt_43 : decode cX12_rhymeAt 43 = .ok (.iload_n 3, 1) := gd_X12_rhymeAt_32.2.2.2.2.2.2.2.1
theorem dX12_rhymeAt_44 : decode cX12_rhymeAt 44 = .ok (.iadd, 1) := gd_X12_rhymeAt_32.2.2.2.2.2.2.2.2.1
theorem dX12_rhymeAt_45 : decode cX12_rhymeAt 45 = .ok (.imul, 1) := gd_X12_rhymeAt_32.2.2.2.2.2.2.2.2.2
theorem gd_X12_rhymeAt_46 : decode cX12_rhymeAt 46 = .ok (.istore 5, 2) ∧ decode cX12_rhymeAt 48 = .ok (.iload 5, 2) ∧ decode cX12_rhymeAt 50 = .ok (.bipush 12, 2) ∧ decode cX12_rhymeAt 52 = .ok (.bipush 7, 2) ∧ decode cX12_rhymeAt 54 = .ok (.iload_n 2, 1) ∧ decode cX12_rhymeAt 55 = .ok (.imul, 1) ∧ decode cX12_rhymeAt 56 = .ok (.iload_n 3, 1) ∧ decode cX12_rhymeAt 57 = .ok (.iadd, 1) ∧ decode cX12_rhymeAt 58 = .ok (.imul, 1) ∧ decode cX12_rhymeAt 59 = .ok (.aload_n 0, 1) := by decide +kernel
theorem dX12_rhymeAt_46 : decode cX12_rhymeAt 46 = .ok (.istore 5, 2) := gd_X12_rhymeAt_46.1
theorem dX12_rhymeAt_48 : decode cX12_rhymeAt 48 = .ok (.iload 5, 2) := gd_X12_rhymeAt_46.2.1
theorem dX12_rhymeAt_50 : decode cX12_rhymeAt 50 = .ok (.bipush 12, 2) := gd_X12_rhymeAt_46.2.2.1
theorem dX12_rhymeAt_52 : decode cX12_rhymeAt 52 = .ok (.bipush 7, 2) := gd_X12_rhymeAt_46.2.2.2.1
theorem dX12_rhymeAt_54 : decode cX12_rhymeAt 54 = .ok (.iload_n 2, 1) := gd_X12_rhymeAt_46.2.2.2.2.1
theorem dX12_rhymeAt_55 : decode cX12_rhymeAt 55 = .ok (.imul, 1) := gd_X12_rhymeAt_46.2.2.2.2.2.1
theorem dX12_rhymeAt_56 : decode cX12_rhymeAt 56 = .ok (.iload_n 3, 1) := gd_X12_rhymeAt_46.2.2.2.2.2.2.1
theorem dX12_rhymeAt_57 : decode cX12_rhymeAt 57 = .ok (.iadd, 1) := gd_X12_rhymeAt_46.2.2.2.2.2.2.2.1
theorem dX12_rhymeAt_58 : decode cX12_rhymeAt 58 = .ok (.imul, 1) := gd_X12_rhymeAt_46.2.2.2.2.2.2.2.2.1
theorem dX12_rhymeAt_59 : decode cX12_rhymeAt 59 = .ok (.aload_n 0, 1) := gd_X12_rhymeAt_46.2.2.2.2.2.2.2.2.2
theorem gd_X12_rhymeAt_60 : decode cX12_rhymeAt 60 = .ok (.getfield 119, 3) ∧ decode cX12_rhymeAt 63 = .ok (.bipush 7, 2) ∧ decode cX12_rhymeAt 65 = .ok (.iload_n 2, 1) ∧ decode cX12_rhymeAt 66 = .ok (.imul, 1) ∧ decode cX12_rhymeAt 67 = .ok (.iload_n 3, 1) ∧ decode cX12_rhymeAt 68 = .ok (.iadd, 1) ∧ decode cX12_rhymeAt 69 = .ok (.iaload, 1) ∧ decode cX12_rhymeAt 70 = .ok (.iadd, 1) ∧ decode cX12_rhymeAt 71 = .ok (.if_icmp .ge 49, 3) ∧ decode cX12_rhymeAt 74 = .ok (.aload_n 0, 1) := by decide +kernel
theorem dX12_rhymeAt_60 : decode cX12_rhymeAt 60 = .ok (.getfield 119, 3) := gd_X12_rhymeAt_60.1
theorem dX12_rhymeAt_63 : decode cX12_rhymeAt 63 = .ok (.bipush 7, 2) := gd_X12_rhymeAt_60.2.1
theorem dX12_rhymeAt_65 : decode cX12_rhymeAt 65 = .ok (.iload_n 2, 1) := gd_X12_rhymeAt_60.2.2.1
theorem dX12_rhymeAt_66 : decode cX12_rhymeAt 66 = .ok (.imul, 1) := gd_X12_rhymeAt_60.2.2.2.1
theorem dX12_rhymeAt_67 : decode cX12_rhymeAt 67 = .ok (.iload_n 3, 1) := gd_X12_rhymeAt_60.2.2.2.2.1
theorem dX12_rhymeAt_68 : decode cX12_rhymeAt 68 = .ok (.iadd, 1) := gd_X12_rhymeAt_60.2.2.2.2.2.1
theorem dX12_rhymeAt_69 : decode cX12_rhymeAt 69 = .ok (.iaload, 1) := gd_X12_rhymeAt_60.2.2.2.2.2.2.1
theorem dX12_rhymeAt_70 : decode cX12_rhymeAt 70 = .ok (.iadd, 1) := gd_X12_rhymeAt_60.2.2.2.2.2.2.2.1
theorem dX12_rhymeAt_71 : decode cX12_rhymeAt 71 = .ok (.if_icmp .ge 49, 3) := gd_X12_rhymeAt_60.2.2.2.2.2.2.2.2.1
theorem dX12_rhymeAt_74 : decode cX12_rhymeAt 74 = .ok (.aload_n 0, 1) := gd_X12_rhymeAt_60.2.2.2.2.2.2.2.2.2
theorem gd_X12_rhymeAt_75 : decode cX12_rhymeAt 75 = .ok (.getfield 113, 3) ∧ decode cX12_rhymeAt 78 = .ok (.bipush 24, 2) ∧ decode cX12_rhymeAt 80 = .ok (.iload 4, 2) ∧ decode cX12_rhymeAt 82 = .ok (.imul, 1) ∧ decode cX12_rhymeAt 83 = .ok (.aload_n 0, 1) ∧ decode cX12_rhymeAt 84 = .ok (.getfield 116, 3) ∧ decode cX12_rhymeAt 87 = .ok (.iload 4, 2) ∧ decode cX12_rhymeAt 89 = .ok (.iaload, 1) ∧ decode cX12_rhymeAt 90 = .ok (.aload_n 0, 1) ∧ decode cX12_rhymeAt 91 = .ok (.getfield 113, 3) := by decide +kernel
theorem dX12_rhymeAt_75 : decode cX12_rhymeAt 75 = .ok (.getfield 113, 3) := gd_X12_rhymeAt_75.1
theorem dX12_rhymeAt_78 : decode cX12_rhymeAt 78 = .ok (.bipush 24, 2) := gd_X12_rhymeAt_75.2.1
theorem dX12_rhymeAt_80 : decode cX12_rhymeAt 80 = .ok (.iload 4, 2) := gd_X12_rhymeAt_75.2.2.1
theorem dX12_rhymeAt_82 : decode cX12_rhymeAt 82 = .ok (.imul, 1) := gd_X12_rhymeAt_75.2.2.2.1
theorem dX12_rhymeAt_83 : decode cX12_rhymeAt 83 = .ok (.aload_n 0, 1) := gd_X12_rhymeAt_75.2.2.2.2.1
theorem dX12_rhymeAt_84 : decode cX12_rhymeAt 84 = .ok (.getfield 116, 3) := gd_X12_rhymeAt_75.2.2.2.2.2.1
theorem dX12_rhymeAt_87 : decode cX12_rhymeAt 87 = .ok (.iload 4, 2) := gd_X12_rhymeAt_75.2.2.2.2.2.2.1
theorem dX12_rhymeAt_89 : decode cX12_rhymeAt 89 = .ok (.iaload, 1) := gd_X12_rhymeAt_75.2.2.2.2.2.2.2.1
theorem dX12_rhymeAt_90 : decode cX12_rhymeAt 90 = .ok (.aload_n 0, 1) := gd_X12_rhymeAt_75.2.2.2.2.2.2.2.2.1
theorem dX12_rhymeAt_91 : decode cX12_rhymeAt 91 = .ok (.getfield 113, 3) := gd_X12_rhymeAt_75.2.2.2.2.2.2.2.2.2
theorem gd_X12_rhymeAt_94 : decode cX12_rhymeAt 94 = .ok (.bipush 24, 2) ∧ decode cX12_rhymeAt 96 = .ok (.iload 5, 2) ∧ decode cX12_rhymeAt 98 = .ok (.imul, 1) ∧ decode cX12_rhymeAt 99 = .ok (.aload_n 0, 1) ∧ decode cX12_rhymeAt 100 = .ok (.getfield 116, 3) ∧ decode cX12_rhymeAt 103 = .ok (.iload 5, 2) ∧ decode cX12_rhymeAt 105 = .ok (.iaload, 1) ∧ decode cX12_rhymeAt 106 = .ok (.invokestatic 331, 3) ∧ decode cX12_rhymeAt 109 = .ok (.ifCond .eq 5, 3) ∧ decode cX12_rhymeAt 112 = .ok (.iconst 1, 1) := by decide +kernel
theorem dX12_rhymeAt_94 : decode cX12_rhymeAt 94 = .ok (.bipush 24, 2) := gd_X12_rhymeAt_94.1
theorem dX12_rhymeAt_96 : decode cX12_rhymeAt 96 = .ok (.iload 5, 2) := gd_X12_rhymeAt_94.2.1
theorem dX12_rhymeAt_98 : decode cX12_rhymeAt 98 = .ok (.imul, 1) := gd_X12_rhymeAt_94.2.2.1
theorem dX12_rhymeAt_99 : decode cX12_rhymeAt 99 = .ok (.aload_n 0, 1) := gd_X12_rhymeAt_94.2.2.2.1
theorem dX12_rhymeAt_100 : decode cX12_rhymeAt 100 = .ok (.getfield 116, 3) := gd_X12_rhymeAt_94.2.2.2.2.1
theorem dX12_rhymeAt_103 : decode cX12_rhymeAt 103 = .ok (.iload 5, 2) := gd_X12_rhymeAt_94.2.2.2.2.2.1
theorem dX12_rhymeAt_105 : decode cX12_rhymeAt 105 = .ok (.iaload, 1) := gd_X12_rhymeAt_94.2.2.2.2.2.2.1
theorem dX12_rhymeAt_106 : decode cX12_rhymeAt 106 = .ok (.invokestatic 331, 3) := gd_X12_rhymeAt_94.2.2.2.2.2.2.2.1
theorem dX12_rhymeAt_109 : decode cX12_rhymeAt 109 = .ok (.ifCond .eq 5, 3) := gd_X12_rhymeAt_94.2.2.2.2.2.2.2.2.1
theorem dX12_rhymeAt_112 : decode cX12_rhymeAt 112 = .ok (.iconst 1, 1) := gd_X12_rhymeAt_94.2.2.2.2.2.2.2.2.2
theorem gd_X12_rhymeAt_113 : decode cX12_rhymeAt 113 = .ok (.ireturn, 1) ∧ decode cX12_rhymeAt 114 = .ok (.iinc 5 1, 3) ∧ decode cX12_rhymeAt 117 = .ok (.goto (-69), 3) ∧ decode cX12_rhymeAt 120 = .ok (.iinc 4 1, 3) ∧ decode cX12_rhymeAt 123 = .ok (.goto (-112), 3) ∧ decode cX12_rhymeAt 126 = .ok (.iconst 0, 1) ∧ decode cX12_rhymeAt 127 = .ok (.ireturn, 1) ∧ decode cX12_isName 0 = .ok (.iload_n 1, 1) ∧ decode cX12_isName 1 = .ok (.istore_n 3, 1) ∧ decode cX12_isName 2 = .ok (.iload_n 3, 1) := by decide +kernel
theorem dX12_rhymeAt_113 : decode cX12_rhymeAt 113 = .ok (.ireturn, 1) := gd_X12_rhymeAt_113.1
theorem dX12_rhymeAt_114 : decode cX12_rhymeAt 114 = .ok (.iinc 5 1, 3) := gd_X12_rhymeAt_113.2.1
theorem dX12_rhymeAt_117 : decode cX12_rhymeAt 117 = .ok (.goto (-69), 3) := gd_X12_rhymeAt_113.2.2.1
theorem dX12_rhymeAt_120 : decode cX12_rhymeAt 120 = .ok (.iinc 4 1, 3) := gd_X12_rhymeAt_113.2.2.2.1
theorem dX12_rhymeAt_123 : decode cX12_rhymeAt 123 = .ok (.goto (-112), 3) := gd_X12_rhymeAt_113.2.2.2.2.1
theorem dX12_rhymeAt_126 : decode cX12_rhymeAt 126 = .ok (.iconst 0, 1) := gd_X12_rhymeAt_113.2.2.2.2.2.1
theorem dX12_rhymeAt_127 : decode cX12_rhymeAt 127 = .ok (.ireturn, 1) := gd_X12_rhymeAt_113.2.2.2.2.2.2.1
theorem dX12_isName_0 : decode cX12_isName 0 = .ok (.iload_n 1, 1) := gd_X12_rhymeAt_113.2.2.2.2.2.2.2.1
theorem dX12_isName_1 : decode cX12_isName 1 = .ok (.istore_n 3, 1) := gd_X12_rhymeAt_113.2.2.2.2.2.2.2.2.1
theorem dX12_isName_2 : decode cX12_isName 2 = .ok (.iload_n 3, 1) := gd_X12_rhymeAt_113.2.2.2.2.2.2.2.2.2
theorem gd_X12_isName_3 : decode cX12_isName 3 = .ok (.iload_n 2, 1) ∧ decode cX12_isName 4 = .ok (.if_icmp .ge 23, 3) ∧ decode cX12_isName 7 = .ok (.aload_n 0, 1) ∧ decode cX12_isName 8 = .ok (.getfield 7, 3) ∧ decode cX12_isName 11 = .ok (.iload_n 3, 1) ∧ decode cX12_isName 12 = .ok (.baload, 1) ∧ decode cX12_isName 13 = .ok (.invokestatic 183, 3) ∧ decode cX12_isName 16 = .ok (.ifCond .ne 5, 3) ∧ decode cX12_isName 19 = .ok (.iconst 1, 1) ∧ decode cX12_isName 20 = .ok (.ireturn, 1) := by decide +kernel
theorem dX12_isName_3 : decode cX12_isName 3 = .ok (.iload_n 2, 1) := gd_X12_isName_3.1
theorem dX12_isName_4 : decode cX12_isName 4 = .ok (.if_icmp .ge 23, 3) := gd_X12_isName_3.2.1
theorem dX12_isName_7 : decode cX12_isName 7 = .ok (.aload_n 0, 1) := gd_X12_isName_3.2.2.1
theorem dX12_isName_8 : decode cX12_isName 8 = .ok (.getfield 7, 3) := gd_X12_isName_3.2.2.2.1
theorem dX12_isName_11 : decode cX12_isName 11 = .ok (.iload_n 3, 1) := gd_X12_isName_3.2.2.2.2.1
theorem dX12_isName_12 : decode cX12_isName 12 = .ok (.baload, 1) := gd_X12_isName_3.2.2.2.2.2.1
theorem dX12_isName_13 : decode cX12_isName 13 = .ok (.invokestatic 183, 3) := gd_X12_isName_3.2.2.2.2.2.2.1
theorem dX12_isName_16 : decode cX12_isName 16 = .ok (.ifCond .ne 5, 3) := gd_X12_isName_3.2.2.2.2.2.2.2.1
theorem dX12_isName_19 : decode cX12_isName 19 = .ok (.iconst 1, 1) := gd_X12_isName_3.2.2.2.2.2.2.2.2.1
theorem dX12_isName_20 : decode cX12_isName 20 = .ok (.ireturn, 1) := gd_X12_isName_3.2.2.2.2.2.2.2.2.2
theorem gd_X12_isName_21 : decode cX12_isName 21 = .ok (.iinc 3 1, 3) ∧ decode cX12_isName 24 = .ok (.goto (-22), 3) ∧ decode cX12_isName 27 = .ok (.iconst 0, 1) ∧ decode cX12_isName 28 = .ok (.ireturn, 1) ∧ decode cX12_quoted 0 = .ok (.iload_n 1, 1) ∧ decode cX12_quoted 1 = .ok (.iconst 1, 1) ∧ decode cX12_quoted 2 = .ok (.iadd, 1) ∧ decode cX12_quoted 3 = .ok (.istore_n 3, 1) ∧ decode cX12_quoted 4 = .ok (.iload_n 3, 1) ∧ decode cX12_quoted 5 = .ok (.iload_n 2, 1) := by decide +kernel
theorem dX12_isName_21 : decode cX12_isName 21 = .ok (.iinc 3 1, 3) := gd_X12_isName_21.1
theorem dX12_isName_24 : decode cX12_isName 24 = .ok (.goto (-22), 3) := gd_X12_isName_21.2.1
theorem dX12_isName_27 : decode cX12_isName 27 = .ok (.iconst 0, 1) := gd_X12_isName_21.2.2.1
theorem dX12_isName_28 : decode cX12_isName 28 = .ok (.ireturn, 1) := gd_X12_isName_21.2.2.2.1
theorem dX12_quoted_0 : decode cX12_quoted 0 = .ok (.iload_n 1, 1) := gd_X12_isName_21.2.2.2.2.1
theorem dX12_quoted_1 : decode cX12_quoted 1 = .ok (.iconst 1, 1) := gd_X12_isName_21.2.2.2.2.2.1
theorem dX12_quoted_2 : decode cX12_quoted 2 = .ok (.iadd, 1) := gd_X12_isName_21.2.2.2.2.2.2.1
theorem dX12_quoted_3 : decode cX12_quoted 3 = .ok (.istore_n 3, 1) := gd_X12_isName_21.2.2.2.2.2.2.2.1
theorem dX12_quoted_4 : decode cX12_quoted 4 = .ok (.iload_n 3, 1) := gd_X12_isName_21.2.2.2.2.2.2.2.2.1
theorem dX12_quoted_5 : decode cX12_quoted 5 = .ok (.iload_n 2, 1) := gd_X12_isName_21.2.2.2.2.2.2.2.2.2
theorem gd_X12_quoted_6 : decode cX12_quoted 6 = .ok (.if_icmp .ge 20, 3) ∧ decode cX12_quoted 9 = .ok (.aload_n 0, 1) ∧ decode cX12_quoted 10 = .ok (.getfield 7, 3) ∧ decode cX12_quoted 13 = .ok (.iload_n 3, 1) ∧ decode cX12_quoted 14 = .ok (.baload, 1) ∧ decode cX12_quoted 15 = .ok (.bipush 34, 2) ∧ decode cX12_quoted 17 = .ok (.if_icmp .eq 9, 3) ∧ decode cX12_quoted 20 = .ok (.iinc 3 1, 3) ∧ decode cX12_quoted 23 = .ok (.goto (-19), 3) ∧ decode cX12_quoted 26 = .ok (.iload_n 3, 1) := by decide +kernel
theorem dX12_quoted_6 : decode cX12_quoted 6 = .ok (.if_icmp .ge 20, 3) := gd_X12_quoted_6.1
theorem dX12_quoted_9 : decode cX12_quoted 9 = .ok (.aload_n 0, 1) := gd_X12_quoted_6.2.1
theorem dX12_quoted_10 : decode cX12_quoted 10 = .ok (.getfield 7, 3) := gd_X12_quoted_6.2.2.1
theorem dX12_quoted_13 : decode cX12_quoted 13 = .ok (.iload_n 3, 1) := gd_X12_quoted_6.2.2.2.1
theorem dX12_quoted_14 : decode cX12_quoted 14 = .ok (.baload, 1) := gd_X12_quoted_6.2.2.2.2.1
theorem dX12_quoted_15 : decode cX12_quoted 15 = .ok (.bipush 34, 2) := gd_X12_quoted_6.2.2.2.2.2.1
theorem dX12_quoted_17 : decode cX12_quoted 17 = .ok (.if_icmp .eq 9, 3) := gd_X12_quoted_6.2.2.2.2.2.2.1
theorem dX12_quoted_20 : decode cX12_quoted 20 = .ok (.iinc 3 1, 3) := gd_X12_quoted_6.2.2.2.2.2.2.2.1
theorem dX12_quoted_23 : decode cX12_quoted 23 = .ok (.goto (-19), 3) := gd_X12_quoted_6.2.2.2.2.2.2.2.2.1
theorem dX12_quoted_26 : decode cX12_quoted 26 = .ok (.iload_n 3, 1) := gd_X12_quoted_6.2.2.2.2.2.2.2.2.2
theorem gd_X12_quoted_27 : decode cX12_quoted 27 = .ok (.iload_n 2, 1) ∧ decode cX12_quoted 28 = .ok (.if_icmp .ge 9, 3) ∧ decode cX12_quoted 31 = .ok (.iload_n 3, 1) ∧ decode cX12_quoted 32 = .ok (.iconst 1, 1) ∧ decode cX12_quoted 33 = .ok (.iadd, 1) ∧ decode cX12_quoted 34 = .ok (.goto 4, 3) ∧ decode cX12_quoted 37 = .ok (.iload_n 2, 1) ∧ decode cX12_quoted 38 = .ok (.ireturn, 1) ∧ decode cX12_written 14 = .ok (.aload_n 0, 1) ∧ decode cX12_written 15 = .ok (.getfield 131, 3) := by decide +kernel
theorem dX12_quoted_27 : decode cX12_quoted 27 = .ok (.iload_n 2, 1) := gd_X12_quoted_27.1
theorem dX12_quoted_28 : decode cX12_quoted 28 = .ok (.if_icmp .ge 9, 3) := gd_X12_quoted_27.2.1
theorem dX12_quoted_31 : decode cX12_quoted 31 = .ok (.iload_n 3, 1) := gd_X12_quoted_27.2.2.1
theorem dX12_quoted_32 : decode cX12_quoted 32 = .ok (.iconst 1, 1) := gd_X12_quoted_27.2.2.2.1
theorem dX12_quoted_33 : decode cX12_quoted 33 = .ok (.iadd, 1) := gd_X12_quoted_27.2.2.2.2.1
theorem dX12_quoted_34 : decode cX12_quoted 34 = .ok (.goto 4, 3) := gd_X12_quoted_27.2.2.2.2.2.1
theorem dX12_quoted_37 : decode cX12_quoted 37 = .ok (.iload_n 2, 1) := gd_X12_quoted_27.2.2.2.2.2.2.1
theorem dX12_quoted_38 : decode cX12_quoted 38 = .ok (.ireturn, 1) := gd_X12_quoted_27.2.2.2.2.2.2.2.1
theorem dX12_written_14 : decode cX12_written 14 = .ok (.aload_n 0, 1) := gd_X12_quoted_27.2.2.2.2.2.2.2.2.1
theorem dX12_written_15 : decode cX12_written 15 = .ok (.getfield 131, 3) := gd_X12_quoted_27.2.2.2.2.2.2.2.2.2
theorem gd_X12_written_18 : decode cX12_written 18 = .ok (.iload_n 1, 1) ∧ decode cX12_written 19 = .ok (.baload, 1) ∧ decode cX12_written 20 = .ok (.sipush 255, 3) ∧ decode cX12_written 23 = .ok (.iand, 1) ∧ decode cX12_written 24 = .ok (.goto 4, 3) ∧ decode cX12_counted 7 = .ok (.iload_n 1, 1) ∧ decode cX12_counted 8 = .ok (.iconst 0, 1) ∧ decode cX12_counted 9 = .ok (.iconst 4, 1) ∧ decode cX12_counted 10 = .ok (.invokestatic 226, 3) ∧ decode cX12_counted 13 = .ok (.ifCond .eq 12, 3) := by decide +kernel
theorem dX12_written_18 : decode cX12_written 18 = .ok (.iload_n 1, 1) := gd_X12_written_18.1
theorem dX12_written_19 : decode cX12_written 19 = .ok (.baload, 1) := gd_X12_written_18.2.1
theorem dX12_written_20 : decode cX12_written 20 = .ok (.sipush 255, 3) := gd_X12_written_18.2.2.1
theorem dX12_written_23 : decode cX12_written 23 = .ok (.iand, 1) := gd_X12_written_18.2.2.2.1
theorem dX12_written_24 : decode cX12_written 24 = .ok (.goto 4, 3) := gd_X12_written_18.2.2.2.2.1
theorem dX12_counted_7 : decode cX12_counted 7 = .ok (.iload_n 1, 1) := gd_X12_written_18.2.2.2.2.2.1
theorem dX12_counted_8 : decode cX12_counted 8 = .ok (.iconst 0, 1) := gd_X12_written_18.2.2.2.2.2.2.1
theorem dX12_counted_9 : decode cX12_counted 9 = .ok (.iconst 4, 1) := gd_X12_written_18.2.2.2.2.2.2.2.1
theorem dX12_counted_10 : decode cX12_counted 10 = .ok (.invokestatic 226, 3) := gd_X12_written_18.2.2.2.2.2.2.2.2.1
theorem dX12_counted_13 : decode cX12_counted 13 = .ok (.ifCond .eq 12, 3) := gd_X12_written_18.2.2.2.2.2.2.2.2.2
theorem gd_X12_counted_16 : decode cX12_counted 16 = .ok (.aload_n 0, 1) ∧ decode cX12_counted 17 = .ok (.getfield 137, 3) ∧ decode cX12_counted 20 = .ok (.iload_n 1, 1) ∧ decode cX12_counted 21 = .ok (.iaload, 1) ∧ decode cX12_counted 22 = .ok (.goto 4, 3) ∧ decode cX12_isKnown 0 = .ok (.iconst 0, 1) ∧ decode cX12_isKnown 1 = .ok (.istore 4, 2) ∧ decode cX12_isKnown 3 = .ok (.iload 4, 2) ∧ decode cX12_isKnown 5 = .ok (.aload_n 0, 1) ∧ decode cX12_isKnown 6 = .ok (.getfield 312, 3) := by decide +kernel
theorem dX12_counted_16 : decode cX12_counted 16 = .ok (.aload_n 0, 1) := gd_X12_counted_16.1
theorem dX12_counted_17 : decode cX12_counted 17 = .ok (.getfield 137, 3) := gd_X12_counted_16.2.1
theorem dX12_counted_20 : decode cX12_counted 20 = .ok (.iload_n 1, 1) := gd_X12_counted_16.2.2.1
theorem dX12_counted_21 : decode cX12_counted 21 = .ok (.iaload, 1) := gd_X12_counted_16.2.2.2.1
theorem dX12_counted_22 : decode cX12_counted 22 = .ok (.goto 4, 3) := gd_X12_counted_16.2.2.2.2.1
theorem dX12_isKnown_0 : decode cX12_isKnown 0 = .ok (.iconst 0, 1) := gd_X12_counted_16.2.2.2.2.2.1
theorem dX12_isKnown_1 : decode cX12_isKnown 1 = .ok (.istore 4, 2) := gd_X12_counted_16.2.2.2.2.2.2.1
theorem dX12_isKnown_3 : decode cX12_isKnown 3 = .ok (.iload 4, 2) := gd_X12_counted_16.2.2.2.2.2.2.2.1
theorem dX12_isKnown_5 : decode cX12_isKnown 5 = .ok (.aload_n 0, 1) := gd_X12_counted_16.2.2.2.2.2.2.2.2.1
theorem dX12_isKnown_6 : decode cX12_isKnown 6 = .ok (.getfield 312, 3) := gd_X12_counted_16.2.2.2.2.2.2.2.2.2
theorem gd_X12_isKnown_9 : decode cX12_isKnown 9 = .ok (.if_icmp .ge 29, 3) ∧ decode cX12_isKnown 12 = .ok (.aload_n 0, 1) ∧ decode cX12_isKnown 13 = .ok (.iload 4, 2) ∧ decode cX12_isKnown 15 = .ok (.iload_n 1, 1) ∧ decode cX12_isKnown 16 = .ok (.aload_n 0, 1) ∧ decode cX12_isKnown 17 = .ok (.getfield 7, 3) ∧ decode cX12_isKnown 20 = .ok (.iload_n 2, 1) ∧ decode cX12_isKnown 21 = .ok (.iload_n 3, 1) ∧ decode cX12_isKnown 22 = .ok (.iload_n 2, 1) ∧ decode cX12_isKnown 23 = .ok (.isub, 1) := by decide +kernel
theorem dX12_isKnown_9 : decode cX12_isKnown 9 = .ok (.if_icmp .ge 29, 3) := gd_X12_isKnown_9.1
theorem dX12_isKnown_12 : decode cX12_isKnown 12 = .ok (.aload_n 0, 1) := gd_X12_isKnown_9.2.1
theorem dX12_isKnown_13 : decode cX12_isKnown 13 = .ok (.iload 4, 2) := gd_X12_isKnown_9.2.2.1
theorem dX12_isKnown_15 : decode cX12_isKnown 15 = .ok (.iload_n 1, 1) := gd_X12_isKnown_9.2.2.2.1
theorem dX12_isKnown_16 : decode cX12_isKnown 16 = .ok (.aload_n 0, 1) := gd_X12_isKnown_9.2.2.2.2.1
theorem dX12_isKnown_17 : decode cX12_isKnown 17 = .ok (.getfield 7, 3) := gd_X12_isKnown_9.2.2.2.2.2.1
theorem dX12_isKnown_20 : decode cX12_isKnown 20 = .ok (.iload_n 2, 1) := gd_X12_isKnown_9.2.2.2.2.2.2.1
theorem dX12_isKnown_21 : decode cX12_isKnown 21 = .ok (.iload_n 3, 1) := gd_X12_isKnown_9.2.2.2.2.2.2.2.1
theorem dX12_isKnown_22 : decode cX12_isKnown 22 = .ok (.iload_n 2, 1) := gd_X12_isKnown_9.2.2.2.2.2.2.2.2.1
theorem dX12_isKnown_23 : decode cX12_isKnown 23 = .ok (.isub, 1) := gd_X12_isKnown_9.2.2.2.2.2.2.2.2.2
theorem gd_X12_isKnown_24 : decode cX12_isKnown 24 = .ok (.invokevirtual 321, 3) ∧ decode cX12_isKnown 27 = .ok (.ifCond .eq 5, 3) ∧ decode cX12_isKnown 30 = .ok (.iconst 1, 1) ∧ decode cX12_isKnown 31 = .ok (.ireturn, 1) ∧ decode cX12_isKnown 32 = .ok (.iinc 4 1, 3) ∧ decode cX12_isKnown 35 = .ok (.goto (-32), 3) ∧ decode cX12_isKnown 38 = .ok (.iconst 0, 1) ∧ decode cX12_isKnown 39 = .ok (.ireturn, 1) ∧ decode cX12_onward 34 = .ok (.iload_n 2, 1) ∧ decode cX12_onward 35 = .ok (.iload 5, 2) := by decide +kernel
theorem dX12_isKnown_24 : decode cX12_isKnown 24 = .ok (.invokevirtual 321, 3) := gd_X12_isKnown_24.1
theorem dX12_isKnown_27 : decode cX12_isKnown 27 = .ok (.ifCond .eq 5, 3) := gd_X12_isKnown_24.2.1
theorem dX12_isKnown_30 : decode cX12_isKnown 30 = .ok (.iconst 1, 1) := gd_X12_isKnown_24.2.2.1
theorem dX12_isKnown_31 : decode cX12_isKnown 31 = .ok (.ireturn, 1) := gd_X12_isKnown_24.2.2.2.1
theorem dX12_isKnown_32 : decode cX12_isKnown 32 = .ok (.iinc 4 1, 3) := gd_X12_isKnown_24.2.2.2.2.1
theorem dX12_isKnown_35 : decode cX12_isKnown 35 = .ok (.goto (-32), 3) := gd_X12_isKnown_24.2.2.2.2.2.1
theorem dX12_isKnown_38 : decode cX12_isKnown 38 = .ok (.iconst 0, 1) := gd_X12_isKnown_24.2.2.2.2.2.2.1
theorem dX12_isKnown_39 : decode cX12_isKnown 39 = .ok (.ireturn, 1) := gd_X12_isKnown_24.2.2.2.2.2.2.2.1
theorem dX12_onward_34 : decode cX12_onward 34 = .ok (.iload_n 2, 1) := gd_X12_isKnown_24.2.2.2.2.2.2.2.2.1
theorem dX12_onward_35 : decode cX12_onward 35 = .ok (.iload 5, 2) := gd_X12_isKnown_24.2.2.2.2.2.2.2.2.2
theorem gd_X12_onward_37 : decode cX12_onward 37 = .ok (.if_icmp .ne 7, 3) ∧ decode cX12_onward 44 = .ok (.iload_n 3, 1) ∧ decode cX12_onward 60 = .ok (.iload 4, 2) ∧ decode cX12_line 14 = .ok (.aload_n 0, 1) ∧ decode cX12_line 15 = .ok (.getfield 149, 3) ∧ decode cX12_line 18 = .ok (.iload_n 1, 1) ∧ decode cX12_line 19 = .ok (.iaload, 1) ∧ decode cX12_line 20 = .ok (.goto 4, 3) := by decide +kernel
theorem dX12_onward_37 : decode cX12_onward 37 = .ok (.if_icmp .ne 7, 3) := gd_X12_onward_37.1
theorem dX12_onward_44 : decode cX12_onward 44 = .ok (.iload_n 3, 1) := gd_X12_onward_37.2.1
theorem dX12_onward_60 : decode cX12_onward 60 = .ok (.iload 4, 2) := gd_X12_onward_37.2.2.1
theorem dX12_line_14 : decode cX12_line 14 = .ok (.aload_n 0, 1) := gd_X12_onward_37.2.2.2.1
theorem dX12_line_15 : decode cX12_line 15 = .ok (.getfield 149, 3) := gd_X12_onward_37.2.2.2.2.1
theorem dX12_line_18 : decode cX12_line 18 = .ok (.iload_n 1, 1) := gd_X12_onward_37.2.2.2.2.2.1
theorem dX12_line_19 : decode cX12_line 19 = .ok (.iaload, 1) := gd_X12_onward_37.2.2.2.2.2.2.1
theorem dX12_line_20 : decode cX12_line 20 = .ok (.goto 4, 3) := gd_X12_onward_37.2.2.2.2.2.2.2
set_option maxHeartbeats 4000000 in
set_option maxRecDepth 100000 in
theorem bm_fault {p : Program} {l : Launch} {e : Env} {s : State} {m : MethodId} {args : Array Value} {below : List Frame} {meth : Method} {c : Code} {Q : State → Prop} {A : Nat → Prop} {dC : Nat → ClassId} {dI : Nat → Nat → Nat} {h0 : Nat} {kB kI kZ : ClassId} {q : Nat → Nat} {g : Nat → Int32} {F : Nat → Nat → Int32} {H : Heap} {locs : List Loc} {ls : Array Slot} (p0 : Int32) (r : Int32) (hr : f_fault g F p0 = some r) (hx : p.tables.exec = Jvm.exec) (hb : c.code = cX12_fault) (hml : c.maxLocals = 2) (hown : s.vm.findClass RX12 = some m.cls) (hts : ∀ w ∈ vmX12_fault, w.before args s = true) (hA : ∀ q : Nat, s.heap.size ≤ q → A q) (hK : va_K (dC, dI) vwCl (mT kB kI kZ) s) (hP : va_P (dC, dI) vwCl (mW h0 kB kI kZ q g F) H) (hD : va_D A (mW h0 kB kI kZ q g F)) (hS : va_S A s.heap H locs) (hl : lv_has ls 2 [(0, .ref h0), (1, .int p0)])
    (K : ∀ (pc : Nat) (ls : Array Slot) (rz : Int32) (H : Heap) (locs : List Loc), some rz = some r → decode cX12_fault pc = .ok (.ireturn, 1) → va_P (dC, dI) vwCl (mW h0 kB kI kZ q g F) H → va_D A (mW h0 kB kI kZ q g F) → va_S A s.heap H locs → W p l e ({ frames := 2, cells := 0, slots := 0, locals := 60 } : Room) s m args below meth c H locs 0 0 Q (F0 m pc ls [.int rz])) : W p l e ({ frames := 2, cells := 0, slots := 0, locals := 60 } : Room) s m args below meth c H locs 0 0 Q (F0 m 0 ls []) := by
  unfold f_fault at hr
  refine lv_iload_n hx hb dX12_fault_0 rfl (lv_at hl 1 rfl) ?_
  replace hr := jnS hr
  obtain ⟨j24, hj24, hr⟩ := hr
  have Jj24 : ∀ (t24_0 : Int32) (H : Heap) (locs : List Loc) (ls : Array Slot), j24 t24_0 = some r → va_P (dC, dI) vwCl (mW h0 kB kI kZ q g F) H → va_D A (mW h0 kB kI kZ q g F) → va_S A s.heap H locs → lv_has ls 2 [] → W p l e ({ frames := 2, cells := 0, slots := 0, locals := 60 } : Room) s m args below meth c H locs 0 0 Q (F0 m 24 ls [.int t24_0]) := by
    intro t24_0 H locs ls hr hP hD hS hl
    rw [hj24] at hr
    exact K 24 ls _ H _ hr dX12_fault_24 hP hD hS
  refine lv_if_ne (tgt := 11) hx hb dX12_fault_1 (by decide) (fun c1 => ?_) (fun c1 => ?_)
  · replace hr := iteF c1 hr
    refine lv_iload_n hx hb dX12_fault_11 rfl (lv_at hl 1 rfl) ?_
    refine lv_iconst (v := 1) hx hb dX12_fault_12 (by decide +kernel) ?_
    refine lv_icmp_ne (tgt := 23) hx hb dX12_fault_13 (by decide) (fun c13 => ?_) (fun c13 => ?_)
    · replace hr := iteF c13 hr
      refine lv_iconst (v := (-1)) hx hb dX12_fault_23 (by decide +kernel) ?_
      exact Jj24 (-1) H _ ls hr hP hD hS (lv_sub hl [] rfl)
    · replace hr := iteT c13 hr
      refine lv_aload_n hx hb dX12_fault_16 rfl (lv_at hl 0 rfl) ?_
      refine va_get (D := (dC, dI)) (ci := 12) (v := .int (g 8)) (C := RX12) (T := TX12) (N := 71) hx hb hts inX12 hown hK hP 0 rfl rfl 8 (by decide) (hts (.fieldLink RX12 13 "SpellTurnerModel" "faultPlace" "I") im_38) (fun _ h9 => h9) rfl dX12_fault_17 ?_
      refine lv_goto (tgt := 24) hx hb dX12_fault_20 (by decide) ?_
      first | exact Jj24 (g 8) H _ ls hr (sP_eq (mW_cg (by repeat (first | with_reducible rfl | with_reducible refine upd_cg ?_ | refine Eq.trans ?_ (upd_id rfl))) (by repeat (first | with_reducible rfl | with_reducible refine upF_cg ?_ | refine Eq.trans ?_ (upF_id rfl)))) hP) (sD_eq (mW_cg (by repeat (first | with_reducible rfl | with_reducible refine upd_cg ?_ | refine Eq.trans ?_ (upd_id rfl))) (by repeat (first | with_reducible rfl | with_reducible refine upF_cg ?_ | refine Eq.trans ?_ (upF_id rfl)))) hD) hS (lv_sub hl [] rfl) | exact Jj24 (g 8) H _ ls hr hP hD hS (lv_sub hl [] rfl)
  · replace hr := iteT c1 hr
    refine lv_aload_n hx hb dX12_fault_4 rfl (lv_at hl 0 rfl) ?_
    refine va_get (D := (dC, dI)) (ci := 12) (v := .int (g 7)) (C := RX12) (T := TX12) (N := 71) hx hb hts inX12 hown hK hP 0 rfl rfl 7 (by decide) (hts (.fieldLink RX12 194 "SpellTurnerModel" "faultKind" "I") im_36) (fun _ h9 => h9) rfl dX12_fault_5 ?_
    refine lv_goto (tgt := 24) hx hb dX12_fault_8 (by decide) ?_
    first | exact Jj24 (g 7) H _ ls hr (sP_eq (mW_cg (by repeat (first | with_reducible rfl | with_reducible refine upd_cg ?_ | refine Eq.trans ?_ (upd_id rfl))) (by repeat (first | with_reducible rfl | with_reducible refine upF_cg ?_ | refine Eq.trans ?_ (upF_id rfl)))) hP) (sD_eq (mW_cg (by repeat (first | with_reducible rfl | with_reducible refine upd_cg ?_ | refine Eq.trans ?_ (upd_id rfl))) (by repeat (first | with_reducible rfl | with_reducible refine upF_cg ?_ | refine Eq.trans ?_ (upF_id rfl)))) hD) hS (lv_sub hl [] rfl) | exact Jj24 (g 7) H _ ls hr hP hD hS (lv_sub hl [] rfl)
set_option maxHeartbeats 4000000 in
set_option maxRecDepth 100000 in
theorem m_fault (l : Launch) (dC : Nat → ClassId) (dI : Nat → Nat → Nat) (sz : Nat) (h0 : Nat) (kB kI kZ : ClassId) (q : Nat → Nat) (g : Nat → Int32) (F : Nat → Nat → Int32) (p0 : Int32) (r : Int32) (hr : f_fault g F p0 = some r) : Met l yX12_fault vmX12_fault ({ frames := 2, cells := 0, slots := 0, locals := 60 } : Room) (va_Pc [.ref h0, .int p0] (fun U => U.heap.size = sz ∧ va_P (dC, dI) vwCl (mW h0 kB kI kZ q g F) U.heap ∧ va_K (dC, dI) vwCl (mT kB kI kZ) U ∧ va_D (fun _ => True) (mW h0 kB kI kZ q g F))) (va_Qi (fun (rz : Int32) (_ : Unit) => rz = r) (fun _ t => va_P (dC, dI) vwCl (mW h0 kB kI kZ q g F) t.heap ∧ va_K (dC, dI) vwCl (mT kB kI kZ) t ∧ va_D (va_A (mW h0 kB kI kZ q g F) sz) (mW h0 kB kI kZ q g F)) (va_A (mW h0 kB kI kZ q g F) sz)) 0 0 (va_A (mW h0 kB kI kZ q g F) sz) := by
  refine Met.ofW (cc := cX12_fault) (maxL := 2) (ret := (some .int)) (by decide) rfl ?_
  intro p e s m args below meth c s₁ B hml hv
  obtain ⟨rfl, hsz, hP, hK, hD0⟩ := hv
  have hx := B.exec
  have hb := B.bytes
  have hrt := B.returns
  have hts := atoms_spec (ws := vmX12_fault) B.pre
  have hown : s.vm.findClass RX12 = some m.cls := findClass_of_methodNamed B.named
  subst hsz
  have hD := hD0.self (sz := s.heap.size)
  generalize hAe : va_A (mW h0 kB kI kZ q g F) s.heap.size = A at hD ⊢
  have hA : ∀ q : Nat, s.heap.size ≤ q → A q := fun q h => by rw [← hAe]; exact Or.inr h
  have hS : va_S A s.heap s.heap [] := va_S.rf
  have hl := lv_entry ([.ref h0, .int p0]) (n := 2) (Nat.le_of_ble_eq_true rfl)
  rw [lg_entry_eq]
  generalize (lg_sl ([.ref h0, .int p0]) ++ List.replicate (2 - (lg_sl ([.ref h0, .int p0])).length) Slot.unset).toArray = ls at hl ⊢
  exact bm_fault p0 r hr hx hb hml hown hts hA hK hP hD hS hl (fun pc ls rz H locs he hd hP hD hS => by cases he; exact W.iret (v := r) hx hb hrt (fun t ht hW => ⟨⟨r, (), rfl, rfl, by rw [ht]; exact hP, va_K.moved hW.alike hK, hD⟩, hS.F ht⟩) hS.2.2 hd)
set_option maxHeartbeats 4000000 in
set_option maxRecDepth 100000 in
theorem bm_stage {p : Program} {l : Launch} {e : Env} {s : State} {m : MethodId} {args : Array Value} {below : List Frame} {meth : Method} {c : Code} {Q : State → Prop} {A : Nat → Prop} {dC : Nat → ClassId} {dI : Nat → Nat → Nat} {h0 : Nat} {kB kI kZ : ClassId} {q : Nat → Nat} {g : Nat → Int32} {F : Nat → Nat → Int32} {H : Heap} {locs : List Loc} {ls : Array Slot} (p0 : Int32) (r : Int32) (hr : f_stage g F p0 = some r) (hx : p.tables.exec = Jvm.exec) (hb : c.code = cX12_stage) (hml : c.maxLocals = 4) (hown : s.vm.findClass RX12 = some m.cls) (hts : ∀ w ∈ vmX12_stage, w.before args s = true) (hA : ∀ q : Nat, s.heap.size ≤ q → A q) (hK : va_K (dC, dI) vwCl (mT kB kI kZ) s) (hP : va_P (dC, dI) vwCl (mW h0 kB kI kZ q g F) H) (hD : va_D A (mW h0 kB kI kZ q g F)) (hS : va_S A s.heap H locs) (hl : lv_has ls 4 [(0, .ref h0), (1, .int p0)])
    (K : ∀ (pc : Nat) (ls : Array Slot) (rz : Int32) (H : Heap) (locs : List Loc), some rz = some r → decode cX12_stage pc = .ok (.ireturn, 1) → va_P (dC, dI) vwCl (mW h0 kB kI kZ q g F) H → va_D A (mW h0 kB kI kZ q g F) → va_S A s.heap H locs → W p l e ({ frames := 3, cells := 0, slots := 0, locals := 82 } : Room) s m args below meth c H locs 0 0 Q (F0 m pc ls [.int rz])) : W p l e ({ frames := 3, cells := 0, slots := 0, locals := 82 } : Room) s m args below meth c H locs 0 0 Q (F0 m 0 ls []) := by
  unfold f_stage at hr
  refine lv_iload_n hx hb dX12_stage_0 rfl (lv_at hl 1 rfl) ?_
  refine lv_iconst (v := 0) hx hb dX12_stage_1 (by decide +kernel) ?_
  refine lv_ldc (own := RX12) (v := 100000) hx hb hown (hts (.constant RX12 225 (100000)) im_75) dX12_stage_2 ?_
  replace hr := b1S hr
  obtain ⟨r4z, hc4, hr⟩ := hr
  have hFc := fr_all hD hS hA
  refine va_calli (va_runS (As := [.int p0, .int 0, .int 100000]) (rest := []) ⟨hx, hb, hml, hown, hts⟩ (m_in l dC dI H.size h0 kB kI kZ q g F p0 0 100000 r4z hc4) (va_cwS 3 hts gw_X12_in_226 rfl rfl rfl (by decide +kernel) ⟨Nat.le_of_ble_eq_true rfl, Nat.le_of_ble_eq_true rfl⟩) ⟨fun a U g mk q => by obtain ⟨q0, q1, qP, qK, qD⟩ := q; exact ⟨q0, q1, qP, va_K.moved (u := U) (U := U.calling g mk a) (Vm.Alike.refl U.vm) qK, qD⟩, fun U hU hW => ⟨rfl, by rw [hU], by rw [hU]; exact hP, va_K.moved hW.alike hK, hD.weaken (fun _ _ _ _ => trivial)⟩⟩ rfl rfl hl.1 rfl (lv_room (Nat.le_of_ble_eq_true rfl)) dX12_stage_4 ⟨Nat.le_of_ble_eq_true rfl, Nat.le_of_ble_eq_true rfl⟩) hS (fun q _ h => hFc q h) hFc (fun r4 u t H1 locs ht hvm hw hB hz1 hk1 hS => ?_)
  replace hw : r4 = r4z := hw
  subst hw
  obtain ⟨hP1, hK1, hD1⟩ := hB
  rw [ht] at hP1
  obtain ⟨hP, hD⟩ := jn_all (w1 := (mW h0 kB kI kZ q g F)) hFc hP1 hD1
  clear hFc hP1 hK1 hD1 hk1 hz1 ht hvm
  generalize H1 = H at hP hS ⊢
  have hP : va_P (dC, dI) vwCl (mW h0 kB kI kZ q g F) H := hP
  have hD : va_D A (mW h0 kB kI kZ q g F) := hD
  refine lv_if_ne (tgt := 13) hx hb dX12_stage_7 (by decide) (fun c7 => ?_) (fun c7 => ?_)
  · replace hr := iteF c7 hr
    refine lv_iconst (v := 0) hx hb dX12_stage_13 (by decide +kernel) ?_
    refine lv_istore_n (lv' := [(2, .int 0), (0, .ref h0), (1, .int p0)]) hx hb dX12_stage_14 rfl hl (by decide) rfl (fun ls hl => ?_)
    refine lv_iconst (v := 0) hx hb dX12_stage_15 (by decide +kernel) ?_
    refine lv_istore_n (lv' := [(3, .int 0), (2, .int 0), (0, .ref h0), (1, .int p0)]) hx hb dX12_stage_16 rfl hl (by decide) rfl (fun ls hl => ?_)
    have lp17 : ∀ (n17 : Nat) (y17_2 : Int32) (y17_3 : Int32) (H : Heap) (locs : List Loc) (ls : Array Slot), L_stage_17 g F p0 n17 y17_2 y17_3 = some r → va_P (dC, dI) vwCl (mW h0 kB kI kZ q g F) H → va_D A (mW h0 kB kI kZ q g F) → va_S A s.heap H locs → lv_has ls 4 [(0, .ref h0), (1, .int p0), (2, .int y17_2), (3, .int y17_3)] → W p l e ({ frames := 3, cells := 0, slots := 0, locals := 82 } : Room) s m args below meth c H locs 0 0 Q (F0 m 17 ls []) := by
      intro n17
      induction n17 with
      | zero => intro y17_2 y17_3 H locs ls hr; exact nomatch (show none = some r from hr)
      | succ n17 ih17 =>
        intro y17_2 y17_3 H locs ls hr hP hD hS hl
        replace hr : B_stage_17 g F p0 (L_stage_17 g F p0 n17) y17_2 y17_3 = some r := hr
        unfold B_stage_17 at hr
        refine lv_iload_n hx hb dX12_stage_17 rfl (lv_at hl 3 rfl) ?_
        refine lv_aload_n hx hb dX12_stage_18 rfl (lv_at hl 0 rfl) ?_
        refine va_get (D := (dC, dI)) (ci := 12) (v := .int (g 9)) (C := RX12) (T := TX12) (N := 71) hx hb hts inX12 hown hK hP 0 rfl rfl 9 (by decide) (hts (.fieldLink RX12 222 "SpellTurnerModel" "reforms" "I") im_40) (fun _ h9 => h9) rfl dX12_stage_19 ?_
        refine lv_icmp_ge (tgt := 49) hx hb dX12_stage_22 (by decide) (fun c22 => ?_) (fun c22 => ?_)
        · replace hr := iteT c22 hr
          refine lv_iload_n hx hb dX12_stage_49 rfl (lv_at hl 2 rfl) ?_
          exact K 50 ls _ H _ hr dX12_stage_50 hP hD hS
        · replace hr := iteF c22 hr
          refine lv_iload_n hx hb dX12_stage_25 rfl (lv_at hl 2 rfl) ?_
          refine lv_aload_n hx hb dX12_stage_26 rfl (lv_at hl 0 rfl) ?_
          refine va_get (D := (dC, dI)) (ci := 12) (v := .ref (q 10)) (C := RX12) (T := TX12) (N := 71) hx hb hts inX12 hown hK hP 0 rfl rfl 10 (by decide) (hts (.fieldLink RX12 17 "SpellTurnerModel" "day" "[I") im_60) (fun _ h9 => h9) rfl dX12_stage_27 ?_
          refine lv_iload_n hx hb dX12_stage_30 rfl (lv_at hl 3 rfl) ?_
          replace hr := iteS hr
          obtain ⟨hi31, hr⟩ := hr
          refine va_iald (f := (F 10)) hx hb hK hP 2 1 rfl rfl (inbV hi31) dX12_stage_31 ?_
          refine lv_iload_n hx hb dX12_stage_32 rfl (lv_at hl 1 rfl) ?_
          replace hr := jnS hr
          obtain ⟨j41, hj41, hr⟩ := hr
          have Jj41 : ∀ (t41_0 : Int32) (H : Heap) (locs : List Loc) (ls : Array Slot), j41 t41_0 = some r → va_P (dC, dI) vwCl (mW h0 kB kI kZ q g F) H → va_D A (mW h0 kB kI kZ q g F) → va_S A s.heap H locs → lv_has ls 4 [(0, .ref h0), (1, .int p0), (3, .int y17_3)] → W p l e ({ frames := 3, cells := 0, slots := 0, locals := 82 } : Room) s m args below meth c H locs 0 0 Q (F0 m 41 ls [.int t41_0, .int y17_2]) := by
            intro t41_0 H locs ls hr hP hD hS hl
            rw [hj41] at hr
            refine lv_iadd hx hb dX12_stage_41 ?_
            refine lv_topi (fun x42 ex42 => ?_)
            replace hr := vlS hr x42 ex42
            clear ex42
            refine lv_istore_n (lv' := [(2, .int x42), (0, .ref h0), (1, .int p0), (3, .int y17_3)]) hx hb dX12_stage_42 rfl hl (by decide) rfl (fun ls hl => ?_)
            refine lv_iinc (v := (y17_3 + 1)) (lv' := [(3, .int (y17_3 + 1)), (2, .int x42), (0, .ref h0), (1, .int p0)]) hx hb dX12_stage_43 hl (k := 3) rfl rfl (by decide) rfl (fun ls hl => ?_)
            refine lv_goto (tgt := 17) hx hb dX12_stage_46 (by decide) ?_
            exact ih17 x42 (y17_3 + 1) H _ ls hr hP hD hS (lv_sub hl [2, 3, 1, 0] rfl)
          refine lv_icmp_gt (tgt := 40) hx hb dX12_stage_33 (by decide) (fun c33 => ?_) (fun c33 => ?_)
          · replace hr := iteT c33 hr
            refine lv_iconst (v := 0) hx hb dX12_stage_40 (by decide +kernel) ?_
            exact Jj41 0 H _ ls hr hP hD hS (lv_sub hl [0, 1, 3] rfl)
          · replace hr := iteF c33 hr
            refine lv_iconst (v := 1) hx hb dX12_stage_36 (by decide +kernel) ?_
            refine lv_goto (tgt := 41) hx hb dX12_stage_37 (by decide) ?_
            exact Jj41 1 H _ ls hr hP hD hS (lv_sub hl [0, 1, 3] rfl)
    exact lp17 NN 0 0 H _ ls hr hP hD hS (lv_sub hl [2, 3, 1, 0] rfl)
  · replace hr := iteT c7 hr
    refine lv_bipush (v := (-2)) hx hb dX12_stage_10 (by decide +kernel) ?_
    exact K 12 ls _ H _ hr dX12_stage_12 hP hD hS
set_option maxHeartbeats 4000000 in
set_option maxRecDepth 100000 in
theorem m_stage (l : Launch) (dC : Nat → ClassId) (dI : Nat → Nat → Nat) (sz : Nat) (h0 : Nat) (kB kI kZ : ClassId) (q : Nat → Nat) (g : Nat → Int32) (F : Nat → Nat → Int32) (p0 : Int32) (r : Int32) (hr : f_stage g F p0 = some r) : Met l yX12_stage vmX12_stage ({ frames := 3, cells := 0, slots := 0, locals := 82 } : Room) (va_Pc [.ref h0, .int p0] (fun U => U.heap.size = sz ∧ va_P (dC, dI) vwCl (mW h0 kB kI kZ q g F) U.heap ∧ va_K (dC, dI) vwCl (mT kB kI kZ) U ∧ va_D (fun _ => True) (mW h0 kB kI kZ q g F))) (va_Qi (fun (rz : Int32) (_ : Unit) => rz = r) (fun _ t => va_P (dC, dI) vwCl (mW h0 kB kI kZ q g F) t.heap ∧ va_K (dC, dI) vwCl (mT kB kI kZ) t ∧ va_D (va_A (mW h0 kB kI kZ q g F) sz) (mW h0 kB kI kZ q g F)) (va_A (mW h0 kB kI kZ q g F) sz)) 0 0 (va_A (mW h0 kB kI kZ q g F) sz) := by
  refine Met.ofW (cc := cX12_stage) (maxL := 4) (ret := (some .int)) (by decide) rfl ?_
  intro p e s m args below meth c s₁ B hml hv
  obtain ⟨rfl, hsz, hP, hK, hD0⟩ := hv
  have hx := B.exec
  have hb := B.bytes
  have hrt := B.returns
  have hts := atoms_spec (ws := vmX12_stage) B.pre
  have hown : s.vm.findClass RX12 = some m.cls := findClass_of_methodNamed B.named
  subst hsz
  have hD := hD0.self (sz := s.heap.size)
  generalize hAe : va_A (mW h0 kB kI kZ q g F) s.heap.size = A at hD ⊢
  have hA : ∀ q : Nat, s.heap.size ≤ q → A q := fun q h => by rw [← hAe]; exact Or.inr h
  have hS : va_S A s.heap s.heap [] := va_S.rf
  have hl := lv_entry ([.ref h0, .int p0]) (n := 4) (Nat.le_of_ble_eq_true rfl)
  rw [lg_entry_eq]
  generalize (lg_sl ([.ref h0, .int p0]) ++ List.replicate (4 - (lg_sl ([.ref h0, .int p0])).length) Slot.unset).toArray = ls at hl ⊢
  exact bm_stage p0 r hr hx hb hml hown hts hA hK hP hD hS hl (fun pc ls rz H locs he hd hP hD hS => by cases he; exact W.iret (v := r) hx hb hrt (fun t ht hW => ⟨⟨r, (), rfl, rfl, by rw [ht]; exact hP, va_K.moved hW.alike hK, hD⟩, hS.F ht⟩) hS.2.2 hd)
set_option maxHeartbeats 4000000 in
set_option maxRecDepth 100000 in
theorem bm_form {p : Program} {l : Launch} {e : Env} {s : State} {m : MethodId} {args : Array Value} {below : List Frame} {meth : Method} {c : Code} {Q : State → Prop} {A : Nat → Prop} {dC : Nat → ClassId} {dI : Nat → Nat → Nat} {h0 : Nat} {kB kI kZ : ClassId} {q : Nat → Nat} {g : Nat → Int32} {F : Nat → Nat → Int32} {H : Heap} {locs : List Loc} {ls : Array Slot} (p0 : Int32) (p1 : Int32) (r : Int32) (hr : f_form g F p0 p1 = some r) (hx : p.tables.exec = Jvm.exec) (hb : c.code = cX12_form) (hml : c.maxLocals = 3) (hown : s.vm.findClass RX12 = some m.cls) (hts : ∀ w ∈ vmX12_form, w.before args s = true) (hA : ∀ q : Nat, s.heap.size ≤ q → A q) (hK : va_K (dC, dI) vwCl (mT kB kI kZ) s) (hP : va_P (dC, dI) vwCl (mW h0 kB kI kZ q g F) H) (hD : va_D A (mW h0 kB kI kZ q g F)) (hS : va_S A s.heap H locs) (hl : lv_has ls 3 [(0, .ref h0), (1, .int p0), (2, .int p1)])
    (K : ∀ (pc : Nat) (ls : Array Slot) (rz : Int32) (H : Heap) (locs : List Loc), some rz = some r → decode cX12_form pc = .ok (.ireturn, 1) → va_P (dC, dI) vwCl (mW h0 kB kI kZ q g F) H → va_D A (mW h0 kB kI kZ q g F) → va_S A s.heap H locs → W p l e ({ frames := 3, cells := 0, slots := 0, locals := 82 } : Room) s m args below meth c H locs 0 0 Q (F0 m pc ls [.int rz])) : W p l e ({ frames := 3, cells := 0, slots := 0, locals := 82 } : Room) s m args below meth c H locs 0 0 Q (F0 m 0 ls []) := by
  unfold f_form at hr
  refine lv_iload_n hx hb dX12_form_0 rfl (lv_at hl 1 rfl) ?_
  refine lv_iconst (v := 0) hx hb dX12_form_1 (by decide +kernel) ?_
  refine lv_aload_n hx hb dX12_form_2 rfl (lv_at hl 0 rfl) ?_
  refine va_get (D := (dC, dI)) (ci := 12) (v := .int (g 44)) (C := RX12) (T := TX12) (N := 71) hx hb hts inX12 hown hK hP 0 rfl rfl 44 (by decide) (hts (.fieldLink RX12 306 "SpellTurnerModel" "tolds" "I") im_77) (fun _ h9 => h9) rfl dX12_form_3 ?_
  refine lv_iconst (v := 1) hx hb dX12_form_6 (by decide +kernel) ?_
  refine lv_isub hx hb dX12_form_7 ?_
  replace hr := b1S hr
  obtain ⟨r8z, hc8, hr⟩ := hr
  have hFc := fr_all hD hS hA
  refine va_calli (va_runS (As := [.int p0, .int 0, .int ((g 44) - 1)]) (rest := []) ⟨hx, hb, hml, hown, hts⟩ (m_in l dC dI H.size h0 kB kI kZ q g F p0 0 ((g 44) - 1) r8z hc8) (va_cwS 3 hts gw_X12_in_226 rfl rfl rfl (by decide +kernel) ⟨Nat.le_of_ble_eq_true rfl, Nat.le_of_ble_eq_true rfl⟩) ⟨fun a U g mk q => by obtain ⟨q0, q1, qP, qK, qD⟩ := q; exact ⟨q0, q1, qP, va_K.moved (u := U) (U := U.calling g mk a) (Vm.Alike.refl U.vm) qK, qD⟩, fun U hU hW => ⟨rfl, by rw [hU], by rw [hU]; exact hP, va_K.moved hW.alike hK, hD.weaken (fun _ _ _ _ => trivial)⟩⟩ rfl rfl hl.1 rfl (lv_room (Nat.le_of_ble_eq_true rfl)) dX12_form_8 ⟨Nat.le_of_ble_eq_true rfl, Nat.le_of_ble_eq_true rfl⟩) hS (fun q _ h => hFc q h) hFc (fun r8 u t H1 locs ht hvm hw hB hz1 hk1 hS => ?_)
  replace hw : r8 = r8z := hw
  subst hw
  obtain ⟨hP1, hK1, hD1⟩ := hB
  rw [ht] at hP1
  obtain ⟨hP, hD⟩ := jn_all (w1 := (mW h0 kB kI kZ q g F)) hFc hP1 hD1
  clear hFc hP1 hK1 hD1 hk1 hz1 ht hvm
  generalize H1 = H at hP hS ⊢
  have hP : va_P (dC, dI) vwCl (mW h0 kB kI kZ q g F) H := hP
  have hD : va_D A (mW h0 kB kI kZ q g F) := hD
  replace hr := jnS hr
  obtain ⟨j45, hj45, hr⟩ := hr
  have Jj45 : ∀ (t45_0 : Int32) (H : Heap) (locs : List Loc) (ls : Array Slot), j45 t45_0 = some r → va_P (dC, dI) vwCl (mW h0 kB kI kZ q g F) H → va_D A (mW h0 kB kI kZ q g F) → va_S A s.heap H locs → lv_has ls 3 [] → W p l e ({ frames := 3, cells := 0, slots := 0, locals := 82 } : Room) s m args below meth c H locs 0 0 Q (F0 m 45 ls [.int t45_0]) := by
    intro t45_0 H locs ls hr hP hD hS hl
    rw [hj45] at hr
    exact K 45 ls _ H _ hr dX12_form_45 hP hD hS
  replace hr := jnS hr
  obtain ⟨j44, hj44, hr⟩ := hr
  have Jj44 : ∀ (H : Heap) (locs : List Loc) (ls : Array Slot), j44 () = some r → va_P (dC, dI) vwCl (mW h0 kB kI kZ q g F) H → va_D A (mW h0 kB kI kZ q g F) → va_S A s.heap H locs → lv_has ls 3 [] → W p l e ({ frames := 3, cells := 0, slots := 0, locals := 82 } : Room) s m args below meth c H locs 0 0 Q (F0 m 44 ls []) := by
    intro H locs ls hr hP hD hS hl
    rw [hj44] at hr
    refine lv_iconst (v := (-1)) hx hb dX12_form_44 (by decide +kernel) ?_
    exact Jj45 (-1) H _ ls hr hP hD hS (lv_sub hl [] rfl)
  refine lv_if_eq (tgt := 44) hx hb dX12_form_11 (by decide) (fun c11 => ?_) (fun c11 => ?_)
  · replace hr := iteT c11 hr
    exact Jj44 H _ ls hr hP hD hS (lv_sub hl [] rfl)
  · replace hr := iteF c11 hr
    refine lv_iload_n hx hb dX12_form_14 rfl (lv_at hl 2 rfl) ?_
    refine lv_iconst (v := 0) hx hb dX12_form_15 (by decide +kernel) ?_
    refine lv_aload_n hx hb dX12_form_16 rfl (lv_at hl 0 rfl) ?_
    refine va_get (D := (dC, dI)) (ci := 12) (v := .ref (q 43)) (C := RX12) (T := TX12) (N := 71) hx hb hts inX12 hown hK hP 0 rfl rfl 43 (by decide) (hts (.fieldLink RX12 97 "SpellTurnerModel" "toldSize" "[I") im_78) (fun _ h9 => h9) rfl dX12_form_17 ?_
    refine lv_iload_n hx hb dX12_form_20 rfl (lv_at hl 1 rfl) ?_
    replace hr := iteS hr
    obtain ⟨hi21, hr⟩ := hr
    refine va_iald (f := (F 43)) hx hb hK hP 28 1 rfl rfl (inbV hi21) dX12_form_21 ?_
    refine lv_iconst (v := 1) hx hb dX12_form_22 (by decide +kernel) ?_
    refine lv_isub hx hb dX12_form_23 ?_
    replace hr := b1S hr
    obtain ⟨r24z, hc24, hr⟩ := hr
    have hFc := fr_all hD hS hA
    refine va_calli (va_runS (As := [.int p1, .int 0, .int (((F 43) (Int32.toNatClampNeg p0)) - 1)]) (rest := []) ⟨hx, hb, hml, hown, hts⟩ (m_in l dC dI H.size h0 kB kI kZ q g F p1 0 (((F 43) (Int32.toNatClampNeg p0)) - 1) r24z hc24) (va_cwS 3 hts gw_X12_in_226 rfl rfl rfl (by decide +kernel) ⟨Nat.le_of_ble_eq_true rfl, Nat.le_of_ble_eq_true rfl⟩) ⟨fun a U g mk q => by obtain ⟨q0, q1, qP, qK, qD⟩ := q; exact ⟨q0, q1, qP, va_K.moved (u := U) (U := U.calling g mk a) (Vm.Alike.refl U.vm) qK, qD⟩, fun U hU hW => ⟨rfl, by rw [hU], by rw [hU]; exact hP, va_K.moved hW.alike hK, hD.weaken (fun _ _ _ _ => trivial)⟩⟩ rfl rfl hl.1 rfl (lv_room (Nat.le_of_ble_eq_true rfl)) dX12_form_24 ⟨Nat.le_of_ble_eq_true rfl, Nat.le_of_ble_eq_true rfl⟩) hS (fun q _ h => hFc q h) hFc (fun r24 u t H1 locs ht hvm hw hB hz1 hk1 hS => ?_)
    replace hw : r24 = r24z := hw
    subst hw
    obtain ⟨hP1, hK1, hD1⟩ := hB
    rw [ht] at hP1
    obtain ⟨hP, hD⟩ := jn_all (w1 := (mW h0 kB kI kZ q g F)) hFc hP1 hD1
    clear hFc hP1 hK1 hD1 hk1 hz1 ht hvm
    generalize H1 = H at hP hS ⊢
    have hP : va_P (dC, dI) vwCl (mW h0 kB kI kZ q g F) H := hP
    have hD : va_D A (mW h0 kB kI kZ q g F) := hD
    refine lv_if_eq (tgt := 44) hx hb dX12_form_27 (by decide) (fun c27 => ?_) (fun c27 => ?_)
    · replace hr := iteT c27 hr
      exact Jj44 H _ ls hr hP hD hS (lv_sub hl [] rfl)
    · replace hr := iteF c27 hr
      refine lv_aload_n hx hb dX12_form_30 rfl (lv_at hl 0 rfl) ?_
      refine va_get (D := (dC, dI)) (ci := 12) (v := .ref (q 42)) (C := RX12) (T := TX12) (N := 71) hx hb hts inX12 hown hK hP 0 rfl rfl 42 (by decide) (hts (.fieldLink RX12 94 "SpellTurnerModel" "told" "[B") im_79) (fun _ h9 => h9) rfl dX12_form_31 ?_
      refine lv_bipush (v := 24) hx hb dX12_form_34 (by decide +kernel) ?_
      refine lv_iload_n hx hb dX12_form_36 rfl (lv_at hl 1 rfl) ?_
      refine lv_imul hx hb dX12_form_37 ?_
      refine lv_iload_n hx hb dX12_form_38 rfl (lv_at hl 2 rfl) ?_
      refine lv_iadd hx hb dX12_form_39 ?_
      replace hr := iteS hr
      obtain ⟨hi40, hr⟩ := hr
      refine va_bald (f := (F 42)) hx hb hK hP 27 0 rfl rfl (inbV hi40) dX12_form_40 ?_
      refine lv_goto (tgt := 45) hx hb dX12_form_41 (by decide) ?_
      exact Jj45 ((F 42) (Int32.toNatClampNeg ((24 * p0) + p1))) H _ ls hr hP hD hS (lv_sub hl [] rfl)
set_option maxHeartbeats 4000000 in
set_option maxRecDepth 100000 in
theorem m_form (l : Launch) (dC : Nat → ClassId) (dI : Nat → Nat → Nat) (sz : Nat) (h0 : Nat) (kB kI kZ : ClassId) (q : Nat → Nat) (g : Nat → Int32) (F : Nat → Nat → Int32) (p0 : Int32) (p1 : Int32) (r : Int32) (hr : f_form g F p0 p1 = some r) : Met l yX12_form vmX12_form ({ frames := 3, cells := 0, slots := 0, locals := 82 } : Room) (va_Pc [.ref h0, .int p0, .int p1] (fun U => U.heap.size = sz ∧ va_P (dC, dI) vwCl (mW h0 kB kI kZ q g F) U.heap ∧ va_K (dC, dI) vwCl (mT kB kI kZ) U ∧ va_D (fun _ => True) (mW h0 kB kI kZ q g F))) (va_Qi (fun (rz : Int32) (_ : Unit) => rz = r) (fun _ t => va_P (dC, dI) vwCl (mW h0 kB kI kZ q g F) t.heap ∧ va_K (dC, dI) vwCl (mT kB kI kZ) t ∧ va_D (va_A (mW h0 kB kI kZ q g F) sz) (mW h0 kB kI kZ q g F)) (va_A (mW h0 kB kI kZ q g F) sz)) 0 0 (va_A (mW h0 kB kI kZ q g F) sz) := by
  refine Met.ofW (cc := cX12_form) (maxL := 3) (ret := (some .int)) (by decide) rfl ?_
  intro p e s m args below meth c s₁ B hml hv
  obtain ⟨rfl, hsz, hP, hK, hD0⟩ := hv
  have hx := B.exec
  have hb := B.bytes
  have hrt := B.returns
  have hts := atoms_spec (ws := vmX12_form) B.pre
  have hown : s.vm.findClass RX12 = some m.cls := findClass_of_methodNamed B.named
  subst hsz
  have hD := hD0.self (sz := s.heap.size)
  generalize hAe : va_A (mW h0 kB kI kZ q g F) s.heap.size = A at hD ⊢
  have hA : ∀ q : Nat, s.heap.size ≤ q → A q := fun q h => by rw [← hAe]; exact Or.inr h
  have hS : va_S A s.heap s.heap [] := va_S.rf
  have hl := lv_entry ([.ref h0, .int p0, .int p1]) (n := 3) (Nat.le_of_ble_eq_true rfl)
  rw [lg_entry_eq]
  generalize (lg_sl ([.ref h0, .int p0, .int p1]) ++ List.replicate (3 - (lg_sl ([.ref h0, .int p0, .int p1])).length) Slot.unset).toArray = ls at hl ⊢
  exact bm_form p0 p1 r hr hx hb hml hown hts hA hK hP hD hS hl (fun pc ls rz H locs he hd hP hD hS => by cases he; exact W.iret (v := r) hx hb hrt (fun t ht hW => ⟨⟨r, (), rfl, rfl, by rw [ht]; exact hP, va_K.moved hW.alike hK, hD⟩, hS.F ht⟩) hS.2.2 hd)
set_option maxHeartbeats 4000000 in
set_option maxRecDepth 100000 in
theorem bm_parting {p : Program} {l : Launch} {e : Env} {s : State} {m : MethodId} {args : Array Value} {below : List Frame} {meth : Method} {c : Code} {Q : State → Prop} {A : Nat → Prop} {dC : Nat → ClassId} {dI : Nat → Nat → Nat} {h0 : Nat} {kB kI kZ : ClassId} {q : Nat → Nat} {g : Nat → Int32} {F : Nat → Nat → Int32} {H : Heap} {locs : List Loc} {ls : Array Slot} (p0 : Int32) (p1 : Int32) (r : Int32) (hr : f_parting g F p0 p1 = some r) (hx : p.tables.exec = Jvm.exec) (hb : c.code = cX12_parting) (hml : c.maxLocals = 3) (hown : s.vm.findClass RX12 = some m.cls) (hts : ∀ w ∈ vmX12_parting, w.before args s = true) (hA : ∀ q : Nat, s.heap.size ≤ q → A q) (hK : va_K (dC, dI) vwCl (mT kB kI kZ) s) (hP : va_P (dC, dI) vwCl (mW h0 kB kI kZ q g F) H) (hD : va_D A (mW h0 kB kI kZ q g F)) (hS : va_S A s.heap H locs) (hl : lv_has ls 3 [(0, .ref h0), (1, .int p0), (2, .int p1)])
    (K : ∀ (pc : Nat) (ls : Array Slot) (rz : Int32) (H : Heap) (locs : List Loc), some rz = some r → decode cX12_parting pc = .ok (.ireturn, 1) → va_P (dC, dI) vwCl (mW h0 kB kI kZ q g F) H → va_D A (mW h0 kB kI kZ q g F) → va_S A s.heap H locs → W p l e ({ frames := 3, cells := 0, slots := 0, locals := 82 } : Room) s m args below meth c H locs 0 0 Q (F0 m pc ls [.int rz])) : W p l e ({ frames := 3, cells := 0, slots := 0, locals := 82 } : Room) s m args below meth c H locs 0 0 Q (F0 m 0 ls []) := by
  unfold f_parting at hr
  refine lv_iload_n hx hb dX12_parting_0 rfl (lv_at hl 1 rfl) ?_
  refine lv_iconst (v := 0) hx hb dX12_parting_1 (by decide +kernel) ?_
  refine lv_aload_n hx hb dX12_parting_2 rfl (lv_at hl 0 rfl) ?_
  refine va_get (D := (dC, dI)) (ci := 12) (v := .int (g 47)) (C := RX12) (T := TX12) (N := 71) hx hb hts inX12 hown hK hP 0 rfl rfl 47 (by decide) (hts (.fieldLink RX12 309 "SpellTurnerModel" "toldWayMany" "I") im_81) (fun _ h9 => h9) rfl dX12_parting_3 ?_
  refine lv_iconst (v := 1) hx hb dX12_parting_6 (by decide +kernel) ?_
  refine lv_isub hx hb dX12_parting_7 ?_
  replace hr := b1S hr
  obtain ⟨r8z, hc8, hr⟩ := hr
  have hFc := fr_all hD hS hA
  refine va_calli (va_runS (As := [.int p0, .int 0, .int ((g 47) - 1)]) (rest := []) ⟨hx, hb, hml, hown, hts⟩ (m_in l dC dI H.size h0 kB kI kZ q g F p0 0 ((g 47) - 1) r8z hc8) (va_cwS 3 hts gw_X12_in_226 rfl rfl rfl (by decide +kernel) ⟨Nat.le_of_ble_eq_true rfl, Nat.le_of_ble_eq_true rfl⟩) ⟨fun a U g mk q => by obtain ⟨q0, q1, qP, qK, qD⟩ := q; exact ⟨q0, q1, qP, va_K.moved (u := U) (U := U.calling g mk a) (Vm.Alike.refl U.vm) qK, qD⟩, fun U hU hW => ⟨rfl, by rw [hU], by rw [hU]; exact hP, va_K.moved hW.alike hK, hD.weaken (fun _ _ _ _ => trivial)⟩⟩ rfl rfl hl.1 rfl (lv_room (Nat.le_of_ble_eq_true rfl)) dX12_parting_8 ⟨Nat.le_of_ble_eq_true rfl, Nat.le_of_ble_eq_true rfl⟩) hS (fun q _ h => hFc q h) hFc (fun r8 u t H1 locs ht hvm hw hB hz1 hk1 hS => ?_)
  replace hw : r8 = r8z := hw
  subst hw
  obtain ⟨hP1, hK1, hD1⟩ := hB
  rw [ht] at hP1
  obtain ⟨hP, hD⟩ := jn_all (w1 := (mW h0 kB kI kZ q g F)) hFc hP1 hD1
  clear hFc hP1 hK1 hD1 hk1 hz1 ht hvm
  generalize H1 = H at hP hS ⊢
  have hP : va_P (dC, dI) vwCl (mW h0 kB kI kZ q g F) H := hP
  have hD : va_D A (mW h0 kB kI kZ q g F) := hD
  refine lv_if_ne (tgt := 16) hx hb dX12_parting_11 (by decide) (fun c11 => ?_) (fun c11 => ?_)
  · replace hr := iteF c11 hr
    refine lv_iload_n hx hb dX12_parting_16 rfl (lv_at hl 2 rfl) ?_
    refine lv_if_ne (tgt := 27) hx hb dX12_parting_17 (by decide) (fun c17 => ?_) (fun c17 => ?_)
    · replace hr := iteF c17 hr
      refine lv_iload_n hx hb dX12_parting_27 rfl (lv_at hl 2 rfl) ?_
      refine lv_iconst (v := 1) hx hb dX12_parting_28 (by decide +kernel) ?_
      refine lv_aload_n hx hb dX12_parting_29 rfl (lv_at hl 0 rfl) ?_
      refine va_get (D := (dC, dI)) (ci := 12) (v := .ref (q 46)) (C := RX12) (T := TX12) (N := 71) hx hb hts inX12 hown hK hP 0 rfl rfl 46 (by decide) (hts (.fieldLink RX12 103 "SpellTurnerModel" "toldParts" "[I") im_82) (fun _ h9 => h9) rfl dX12_parting_30 ?_
      refine lv_iload_n hx hb dX12_parting_33 rfl (lv_at hl 1 rfl) ?_
      replace hr := iteS hr
      obtain ⟨hi34, hr⟩ := hr
      refine va_iald (f := (F 46)) hx hb hK hP 30 1 rfl rfl (inbV hi34) dX12_parting_34 ?_
      replace hr := b1S hr
      obtain ⟨r35z, hc35, hr⟩ := hr
      have hFc := fr_all hD hS hA
      refine va_calli (va_runS (As := [.int p1, .int 1, .int ((F 46) (Int32.toNatClampNeg p0))]) (rest := []) ⟨hx, hb, hml, hown, hts⟩ (m_in l dC dI H.size h0 kB kI kZ q g F p1 1 ((F 46) (Int32.toNatClampNeg p0)) r35z hc35) (va_cwS 3 hts gw_X12_in_226 rfl rfl rfl (by decide +kernel) ⟨Nat.le_of_ble_eq_true rfl, Nat.le_of_ble_eq_true rfl⟩) ⟨fun a U g mk q => by obtain ⟨q0, q1, qP, qK, qD⟩ := q; exact ⟨q0, q1, qP, va_K.moved (u := U) (U := U.calling g mk a) (Vm.Alike.refl U.vm) qK, qD⟩, fun U hU hW => ⟨rfl, by rw [hU], by rw [hU]; exact hP, va_K.moved hW.alike hK, hD.weaken (fun _ _ _ _ => trivial)⟩⟩ rfl rfl hl.1 rfl (lv_room (Nat.le_of_ble_eq_true rfl)) dX12_parting_35 ⟨Nat.le_of_ble_eq_true rfl, Nat.le_of_ble_eq_true rfl⟩) hS (fun q _ h => hFc q h) hFc (fun r35 u t H1 locs ht hvm hw hB hz1 hk1 hS => ?_)
      replace hw : r35 = r35z := hw
      subst hw
      obtain ⟨hP1, hK1, hD1⟩ := hB
      rw [ht] at hP1
      obtain ⟨hP, hD⟩ := jn_all (w1 := (mW h0 kB kI kZ q g F)) hFc hP1 hD1
      clear hFc hP1 hK1 hD1 hk1 hz1 ht hvm
      generalize H1 = H at hP hS ⊢
      have hP : va_P (dC, dI) vwCl (mW h0 kB kI kZ q g F) H := hP
      have hD : va_D A (mW h0 kB kI kZ q g F) := hD
      replace hr := jnS hr
      obtain ⟨j58, hj58, hr⟩ := hr
      have Jj58 : ∀ (t58_0 : Int32) (H : Heap) (locs : List Loc) (ls : Array Slot), j58 t58_0 = some r → va_P (dC, dI) vwCl (mW h0 kB kI kZ q g F) H → va_D A (mW h0 kB kI kZ q g F) → va_S A s.heap H locs → lv_has ls 3 [] → W p l e ({ frames := 3, cells := 0, slots := 0, locals := 82 } : Room) s m args below meth c H locs 0 0 Q (F0 m 58 ls [.int t58_0]) := by
        intro t58_0 H locs ls hr hP hD hS hl
        rw [hj58] at hr
        exact K 58 ls _ H _ hr dX12_parting_58 hP hD hS
      refine lv_if_eq (tgt := 57) hx hb dX12_parting_38 (by decide) (fun c38 => ?_) (fun c38 => ?_)
      · replace hr := iteT c38 hr
        refine lv_iconst (v := (-1)) hx hb dX12_parting_57 (by decide +kernel) ?_
        exact Jj58 (-1) H _ ls hr hP hD hS (lv_sub hl [] rfl)
      · replace hr := iteF c38 hr
        refine lv_aload_n hx hb dX12_parting_41 rfl (lv_at hl 0 rfl) ?_
        refine va_get (D := (dC, dI)) (ci := 12) (v := .ref (q 45)) (C := RX12) (T := TX12) (N := 71) hx hb hts inX12 hown hK hP 0 rfl rfl 45 (by decide) (hts (.fieldLink RX12 100 "SpellTurnerModel" "toldWays" "[I") im_83) (fun _ h9 => h9) rfl dX12_parting_42 ?_
        refine lv_bipush (v := 24) hx hb dX12_parting_45 (by decide +kernel) ?_
        refine lv_iload_n hx hb dX12_parting_47 rfl (lv_at hl 1 rfl) ?_
        refine lv_imul hx hb dX12_parting_48 ?_
        refine lv_iload_n hx hb dX12_parting_49 rfl (lv_at hl 2 rfl) ?_
        refine lv_iadd hx hb dX12_parting_50 ?_
        refine lv_iconst (v := 1) hx hb dX12_parting_51 (by decide +kernel) ?_
        refine lv_isub hx hb dX12_parting_52 ?_
        replace hr := iteS hr
        obtain ⟨hi53, hr⟩ := hr
        refine va_iald (f := (F 45)) hx hb hK hP 29 1 rfl rfl (inbV hi53) dX12_parting_53 ?_
        refine lv_goto (tgt := 58) hx hb dX12_parting_54 (by decide) ?_
        exact Jj58 ((F 45) (Int32.toNatClampNeg (((24 * p0) + p1) - 1))) H _ ls hr hP hD hS (lv_sub hl [] rfl)
    · replace hr := iteT c17 hr
      refine lv_aload_n hx hb dX12_parting_20 rfl (lv_at hl 0 rfl) ?_
      refine va_get (D := (dC, dI)) (ci := 12) (v := .ref (q 46)) (C := RX12) (T := TX12) (N := 71) hx hb hts inX12 hown hK hP 0 rfl rfl 46 (by decide) (hts (.fieldLink RX12 103 "SpellTurnerModel" "toldParts" "[I") im_82) (fun _ h9 => h9) rfl dX12_parting_21 ?_
      refine lv_iload_n hx hb dX12_parting_24 rfl (lv_at hl 1 rfl) ?_
      replace hr := iteS hr
      obtain ⟨hi25, hr⟩ := hr
      refine va_iald (f := (F 46)) hx hb hK hP 30 1 rfl rfl (inbV hi25) dX12_parting_25 ?_
      exact K 26 ls _ H _ hr dX12_parting_26 hP hD hS
  · replace hr := iteT c11 hr
    refine lv_iconst (v := (-1)) hx hb dX12_parting_14 (by decide +kernel) ?_
    exact K 15 ls _ H _ hr dX12_parting_15 hP hD hS
set_option maxHeartbeats 4000000 in
set_option maxRecDepth 100000 in
theorem m_parting (l : Launch) (dC : Nat → ClassId) (dI : Nat → Nat → Nat) (sz : Nat) (h0 : Nat) (kB kI kZ : ClassId) (q : Nat → Nat) (g : Nat → Int32) (F : Nat → Nat → Int32) (p0 : Int32) (p1 : Int32) (r : Int32) (hr : f_parting g F p0 p1 = some r) : Met l yX12_parting vmX12_parting ({ frames := 3, cells := 0, slots := 0, locals := 82 } : Room) (va_Pc [.ref h0, .int p0, .int p1] (fun U => U.heap.size = sz ∧ va_P (dC, dI) vwCl (mW h0 kB kI kZ q g F) U.heap ∧ va_K (dC, dI) vwCl (mT kB kI kZ) U ∧ va_D (fun _ => True) (mW h0 kB kI kZ q g F))) (va_Qi (fun (rz : Int32) (_ : Unit) => rz = r) (fun _ t => va_P (dC, dI) vwCl (mW h0 kB kI kZ q g F) t.heap ∧ va_K (dC, dI) vwCl (mT kB kI kZ) t ∧ va_D (va_A (mW h0 kB kI kZ q g F) sz) (mW h0 kB kI kZ q g F)) (va_A (mW h0 kB kI kZ q g F) sz)) 0 0 (va_A (mW h0 kB kI kZ q g F) sz) := by
  refine Met.ofW (cc := cX12_parting) (maxL := 3) (ret := (some .int)) (by decide) rfl ?_
  intro p e s m args below meth c s₁ B hml hv
  obtain ⟨rfl, hsz, hP, hK, hD0⟩ := hv
  have hx := B.exec
  have hb := B.bytes
  have hrt := B.returns
  have hts := atoms_spec (ws := vmX12_parting) B.pre
  have hown : s.vm.findClass RX12 = some m.cls := findClass_of_methodNamed B.named
  subst hsz
  have hD := hD0.self (sz := s.heap.size)
  generalize hAe : va_A (mW h0 kB kI kZ q g F) s.heap.size = A at hD ⊢
  have hA : ∀ q : Nat, s.heap.size ≤ q → A q := fun q h => by rw [← hAe]; exact Or.inr h
  have hS : va_S A s.heap s.heap [] := va_S.rf
  have hl := lv_entry ([.ref h0, .int p0, .int p1]) (n := 3) (Nat.le_of_ble_eq_true rfl)
  rw [lg_entry_eq]
  generalize (lg_sl ([.ref h0, .int p0, .int p1]) ++ List.replicate (3 - (lg_sl ([.ref h0, .int p0, .int p1])).length) Slot.unset).toArray = ls at hl ⊢
  exact bm_parting p0 p1 r hr hx hb hml hown hts hA hK hP hD hS hl (fun pc ls rz H locs he hd hP hD hS => by cases he; exact W.iret (v := r) hx hb hrt (fun t ht hW => ⟨⟨r, (), rfl, rfl, by rw [ht]; exact hP, va_K.moved hW.alike hK, hD⟩, hS.F ht⟩) hS.2.2 hd)
set_option maxHeartbeats 4000000 in
set_option maxRecDepth 100000 in
theorem bm_word {p : Program} {l : Launch} {e : Env} {s : State} {m : MethodId} {args : Array Value} {below : List Frame} {meth : Method} {c : Code} {Q : State → Prop} {A : Nat → Prop} {dC : Nat → ClassId} {dI : Nat → Nat → Nat} {h0 : Nat} {kB kI kZ : ClassId} {q : Nat → Nat} {g : Nat → Int32} {F : Nat → Nat → Int32} {H : Heap} {locs : List Loc} {ls : Array Slot} (p0 : Int32) (p1 : Int32) (r : Int32) (hr : f_word g F p0 p1 = some r) (hx : p.tables.exec = Jvm.exec) (hb : c.code = cX12_word) (hml : c.maxLocals = 3) (hown : s.vm.findClass RX12 = some m.cls) (hts : ∀ w ∈ vmX12_word, w.before args s = true) (hA : ∀ q : Nat, s.heap.size ≤ q → A q) (hK : va_K (dC, dI) vwCl (mT kB kI kZ) s) (hP : va_P (dC, dI) vwCl (mW h0 kB kI kZ q g F) H) (hD : va_D A (mW h0 kB kI kZ q g F)) (hS : va_S A s.heap H locs) (hl : lv_has ls 3 [(0, .ref h0), (1, .int p0), (2, .int p1)])
    (K : ∀ (pc : Nat) (ls : Array Slot) (rz : Int32) (H : Heap) (locs : List Loc), some rz = some r → decode cX12_word pc = .ok (.ireturn, 1) → va_P (dC, dI) vwCl (mW h0 kB kI kZ q g F) H → va_D A (mW h0 kB kI kZ q g F) → va_S A s.heap H locs → W p l e ({ frames := 3, cells := 0, slots := 0, locals := 82 } : Room) s m args below meth c H locs 0 0 Q (F0 m pc ls [.int rz])) : W p l e ({ frames := 3, cells := 0, slots := 0, locals := 82 } : Room) s m args below meth c H locs 0 0 Q (F0 m 0 ls []) := by
  unfold f_word at hr
  refine lv_iload_n hx hb dX12_word_0 rfl (lv_at hl 1 rfl) ?_
  refine lv_iconst (v := 0) hx hb dX12_word_1 (by decide +kernel) ?_
  refine lv_aload_n hx hb dX12_word_2 rfl (lv_at hl 0 rfl) ?_
  refine va_get (D := (dC, dI)) (ci := 12) (v := .int (g 48)) (C := RX12) (T := TX12) (N := 71) hx hb hts inX12 hown hK hP 0 rfl rfl 48 (by decide) (hts (.fieldLink RX12 312 "SpellTurnerModel" "words" "I") im_85) (fun _ h9 => h9) rfl dX12_word_3 ?_
  refine lv_iconst (v := 1) hx hb dX12_word_6 (by decide +kernel) ?_
  refine lv_isub hx hb dX12_word_7 ?_
  replace hr := b1S hr
  obtain ⟨r8z, hc8, hr⟩ := hr
  have hFc := fr_all hD hS hA
  refine va_calli (va_runS (As := [.int p0, .int 0, .int ((g 48) - 1)]) (rest := []) ⟨hx, hb, hml, hown, hts⟩ (m_in l dC dI H.size h0 kB kI kZ q g F p0 0 ((g 48) - 1) r8z hc8) (va_cwS 3 hts gw_X12_in_226 rfl rfl rfl (by decide +kernel) ⟨Nat.le_of_ble_eq_true rfl, Nat.le_of_ble_eq_true rfl⟩) ⟨fun a U g mk q => by obtain ⟨q0, q1, qP, qK, qD⟩ := q; exact ⟨q0, q1, qP, va_K.moved (u := U) (U := U.calling g mk a) (Vm.Alike.refl U.vm) qK, qD⟩, fun U hU hW => ⟨rfl, by rw [hU], by rw [hU]; exact hP, va_K.moved hW.alike hK, hD.weaken (fun _ _ _ _ => trivial)⟩⟩ rfl rfl hl.1 rfl (lv_room (Nat.le_of_ble_eq_true rfl)) dX12_word_8 ⟨Nat.le_of_ble_eq_true rfl, Nat.le_of_ble_eq_true rfl⟩) hS (fun q _ h => hFc q h) hFc (fun r8 u t H1 locs ht hvm hw hB hz1 hk1 hS => ?_)
  replace hw : r8 = r8z := hw
  subst hw
  obtain ⟨hP1, hK1, hD1⟩ := hB
  rw [ht] at hP1
  obtain ⟨hP, hD⟩ := jn_all (w1 := (mW h0 kB kI kZ q g F)) hFc hP1 hD1
  clear hFc hP1 hK1 hD1 hk1 hz1 ht hvm
  generalize H1 = H at hP hS ⊢
  have hP : va_P (dC, dI) vwCl (mW h0 kB kI kZ q g F) H := hP
  have hD : va_D A (mW h0 kB kI kZ q g F) := hD
  replace hr := jnS hr
  obtain ⟨j45, hj45, hr⟩ := hr
  have Jj45 : ∀ (t45_0 : Int32) (H : Heap) (locs : List Loc) (ls : Array Slot), j45 t45_0 = some r → va_P (dC, dI) vwCl (mW h0 kB kI kZ q g F) H → va_D A (mW h0 kB kI kZ q g F) → va_S A s.heap H locs → lv_has ls 3 [] → W p l e ({ frames := 3, cells := 0, slots := 0, locals := 82 } : Room) s m args below meth c H locs 0 0 Q (F0 m 45 ls [.int t45_0]) := by
    intro t45_0 H locs ls hr hP hD hS hl
    rw [hj45] at hr
    exact K 45 ls _ H _ hr dX12_word_45 hP hD hS
  replace hr := jnS hr
  obtain ⟨j44, hj44, hr⟩ := hr
  have Jj44 : ∀ (H : Heap) (locs : List Loc) (ls : Array Slot), j44 () = some r → va_P (dC, dI) vwCl (mW h0 kB kI kZ q g F) H → va_D A (mW h0 kB kI kZ q g F) → va_S A s.heap H locs → lv_has ls 3 [] → W p l e ({ frames := 3, cells := 0, slots := 0, locals := 82 } : Room) s m args below meth c H locs 0 0 Q (F0 m 44 ls []) := by
    intro H locs ls hr hP hD hS hl
    rw [hj44] at hr
    refine lv_iconst (v := (-1)) hx hb dX12_word_44 (by decide +kernel) ?_
    exact Jj45 (-1) H _ ls hr hP hD hS (lv_sub hl [] rfl)
  refine lv_if_eq (tgt := 44) hx hb dX12_word_11 (by decide) (fun c11 => ?_) (fun c11 => ?_)
  · replace hr := iteT c11 hr
    exact Jj44 H _ ls hr hP hD hS (lv_sub hl [] rfl)
  · replace hr := iteF c11 hr
    refine lv_iload_n hx hb dX12_word_14 rfl (lv_at hl 2 rfl) ?_
    refine lv_iconst (v := 0) hx hb dX12_word_15 (by decide +kernel) ?_
    refine lv_aload_n hx hb dX12_word_16 rfl (lv_at hl 0 rfl) ?_
    refine va_get (D := (dC, dI)) (ci := 12) (v := .ref (q 50)) (C := RX12) (T := TX12) (N := 71) hx hb hts inX12 hown hK hP 0 rfl rfl 50 (by decide) (hts (.fieldLink RX12 109 "SpellTurnerModel" "bookSize" "[I") im_86) (fun _ h9 => h9) rfl dX12_word_17 ?_
    refine lv_iload_n hx hb dX12_word_20 rfl (lv_at hl 1 rfl) ?_
    replace hr := iteS hr
    obtain ⟨hi21, hr⟩ := hr
    refine va_iald (f := (F 50)) hx hb hK hP 32 1 rfl rfl (inbV hi21) dX12_word_21 ?_
    refine lv_iconst (v := 1) hx hb dX12_word_22 (by decide +kernel) ?_
    refine lv_isub hx hb dX12_word_23 ?_
    replace hr := b1S hr
    obtain ⟨r24z, hc24, hr⟩ := hr
    have hFc := fr_all hD hS hA
    refine va_calli (va_runS (As := [.int p1, .int 0, .int (((F 50) (Int32.toNatClampNeg p0)) - 1)]) (rest := []) ⟨hx, hb, hml, hown, hts⟩ (m_in l dC dI H.size h0 kB kI kZ q g F p1 0 (((F 50) (Int32.toNatClampNeg p0)) - 1) r24z hc24) (va_cwS 3 hts gw_X12_in_226 rfl rfl rfl (by decide +kernel) ⟨Nat.le_of_ble_eq_true rfl, Nat.le_of_ble_eq_true rfl⟩) ⟨fun a U g mk q => by obtain ⟨q0, q1, qP, qK, qD⟩ := q; exact ⟨q0, q1, qP, va_K.moved (u := U) (U := U.calling g mk a) (Vm.Alike.refl U.vm) qK, qD⟩, fun U hU hW => ⟨rfl, by rw [hU], by rw [hU]; exact hP, va_K.moved hW.alike hK, hD.weaken (fun _ _ _ _ => trivial)⟩⟩ rfl rfl hl.1 rfl (lv_room (Nat.le_of_ble_eq_true rfl)) dX12_word_24 ⟨Nat.le_of_ble_eq_true rfl, Nat.le_of_ble_eq_true rfl⟩) hS (fun q _ h => hFc q h) hFc (fun r24 u t H1 locs ht hvm hw hB hz1 hk1 hS => ?_)
    replace hw : r24 = r24z := hw
    subst hw
    obtain ⟨hP1, hK1, hD1⟩ := hB
    rw [ht] at hP1
    obtain ⟨hP, hD⟩ := jn_all (w1 := (mW h0 kB kI kZ q g F)) hFc hP1 hD1
    clear hFc hP1 hK1 hD1 hk1 hz1 ht hvm
    generalize H1 = H at hP hS ⊢
    have hP : va_P (dC, dI) vwCl (mW h0 kB kI kZ q g F) H := hP
    have hD : va_D A (mW h0 kB kI kZ q g F) := hD
    refine lv_if_eq (tgt := 44) hx hb dX12_word_27 (by decide) (fun c27 => ?_) (fun c27 => ?_)
    · replace hr := iteT c27 hr
      exact Jj44 H _ ls hr hP hD hS (lv_sub hl [] rfl)
    · replace hr := iteF c27 hr
      refine lv_aload_n hx hb dX12_word_30 rfl (lv_at hl 0 rfl) ?_
      refine va_get (D := (dC, dI)) (ci := 12) (v := .ref (q 49)) (C := RX12) (T := TX12) (N := 71) hx hb hts inX12 hown hK hP 0 rfl rfl 49 (by decide) (hts (.fieldLink RX12 106 "SpellTurnerModel" "bookText" "[B") im_87) (fun _ h9 => h9) rfl dX12_word_31 ?_
      refine lv_bipush (v := 24) hx hb dX12_word_34 (by decide +kernel) ?_
      refine lv_iload_n hx hb dX12_word_36 rfl (lv_at hl 1 rfl) ?_
      refine lv_imul hx hb dX12_word_37 ?_
      refine lv_iload_n hx hb dX12_word_38 rfl (lv_at hl 2 rfl) ?_
      refine lv_iadd hx hb dX12_word_39 ?_
      replace hr := iteS hr
      obtain ⟨hi40, hr⟩ := hr
      refine va_bald (f := (F 49)) hx hb hK hP 31 0 rfl rfl (inbV hi40) dX12_word_40 ?_
      refine lv_goto (tgt := 45) hx hb dX12_word_41 (by decide) ?_
      exact Jj45 ((F 49) (Int32.toNatClampNeg ((24 * p0) + p1))) H _ ls hr hP hD hS (lv_sub hl [] rfl)
set_option maxHeartbeats 4000000 in
set_option maxRecDepth 100000 in
theorem m_word (l : Launch) (dC : Nat → ClassId) (dI : Nat → Nat → Nat) (sz : Nat) (h0 : Nat) (kB kI kZ : ClassId) (q : Nat → Nat) (g : Nat → Int32) (F : Nat → Nat → Int32) (p0 : Int32) (p1 : Int32) (r : Int32) (hr : f_word g F p0 p1 = some r) : Met l yX12_word vmX12_word ({ frames := 3, cells := 0, slots := 0, locals := 82 } : Room) (va_Pc [.ref h0, .int p0, .int p1] (fun U => U.heap.size = sz ∧ va_P (dC, dI) vwCl (mW h0 kB kI kZ q g F) U.heap ∧ va_K (dC, dI) vwCl (mT kB kI kZ) U ∧ va_D (fun _ => True) (mW h0 kB kI kZ q g F))) (va_Qi (fun (rz : Int32) (_ : Unit) => rz = r) (fun _ t => va_P (dC, dI) vwCl (mW h0 kB kI kZ q g F) t.heap ∧ va_K (dC, dI) vwCl (mT kB kI kZ) t ∧ va_D (va_A (mW h0 kB kI kZ q g F) sz) (mW h0 kB kI kZ q g F)) (va_A (mW h0 kB kI kZ q g F) sz)) 0 0 (va_A (mW h0 kB kI kZ q g F) sz) := by
  refine Met.ofW (cc := cX12_word) (maxL := 3) (ret := (some .int)) (by decide) rfl ?_
  intro p e s m args below meth c s₁ B hml hv
  obtain ⟨rfl, hsz, hP, hK, hD0⟩ := hv
  have hx := B.exec
  have hb := B.bytes
  have hrt := B.returns
  have hts := atoms_spec (ws := vmX12_word) B.pre
  have hown : s.vm.findClass RX12 = some m.cls := findClass_of_methodNamed B.named
  subst hsz
  have hD := hD0.self (sz := s.heap.size)
  generalize hAe : va_A (mW h0 kB kI kZ q g F) s.heap.size = A at hD ⊢
  have hA : ∀ q : Nat, s.heap.size ≤ q → A q := fun q h => by rw [← hAe]; exact Or.inr h
  have hS : va_S A s.heap s.heap [] := va_S.rf
  have hl := lv_entry ([.ref h0, .int p0, .int p1]) (n := 3) (Nat.le_of_ble_eq_true rfl)
  rw [lg_entry_eq]
  generalize (lg_sl ([.ref h0, .int p0, .int p1]) ++ List.replicate (3 - (lg_sl ([.ref h0, .int p0, .int p1])).length) Slot.unset).toArray = ls at hl ⊢
  exact bm_word p0 p1 r hr hx hb hml hown hts hA hK hP hD hS hl (fun pc ls rz H locs he hd hP hD hS => by cases he; exact W.iret (v := r) hx hb hrt (fun t ht hW => ⟨⟨r, (), rfl, rfl, by rw [ht]; exact hP, va_K.moved hW.alike hK, hD⟩, hS.F ht⟩) hS.2.2 hd)
set_option maxHeartbeats 4000000 in
set_option maxRecDepth 100000 in
theorem bm_old {p : Program} {l : Launch} {e : Env} {s : State} {m : MethodId} {args : Array Value} {below : List Frame} {meth : Method} {c : Code} {Q : State → Prop} {A : Nat → Prop} {dC : Nat → ClassId} {dI : Nat → Nat → Nat} {h0 : Nat} {kB kI kZ : ClassId} {q : Nat → Nat} {g : Nat → Int32} {F : Nat → Nat → Int32} {H : Heap} {locs : List Loc} {ls : Array Slot} (p0 : Int32) (r : Int32) (hr : f_old g F p0 = some r) (hx : p.tables.exec = Jvm.exec) (hb : c.code = cX12_old) (hml : c.maxLocals = 2) (hown : s.vm.findClass RX12 = some m.cls) (hts : ∀ w ∈ vmX12_old, w.before args s = true) (hA : ∀ q : Nat, s.heap.size ≤ q → A q) (hK : va_K (dC, dI) vwCl (mT kB kI kZ) s) (hP : va_P (dC, dI) vwCl (mW h0 kB kI kZ q g F) H) (hD : va_D A (mW h0 kB kI kZ q g F)) (hS : va_S A s.heap H locs) (hl : lv_has ls 2 [(0, .ref h0), (1, .int p0)])
    (K : ∀ (pc : Nat) (ls : Array Slot) (rz : Int32) (H : Heap) (locs : List Loc), some rz = some r → decode cX12_old pc = .ok (.ireturn, 1) → va_P (dC, dI) vwCl (mW h0 kB kI kZ q g F) H → va_D A (mW h0 kB kI kZ q g F) → va_S A s.heap H locs → W p l e ({ frames := 3, cells := 0, slots := 0, locals := 82 } : Room) s m args below meth c H locs 0 0 Q (F0 m pc ls [.int rz])) : W p l e ({ frames := 3, cells := 0, slots := 0, locals := 82 } : Room) s m args below meth c H locs 0 0 Q (F0 m 0 ls []) := by
  unfold f_old at hr
  refine lv_iload_n hx hb dX12_old_0 rfl (lv_at hl 1 rfl) ?_
  refine lv_iconst (v := 0) hx hb dX12_old_1 (by decide +kernel) ?_
  refine lv_aload_n hx hb dX12_old_2 rfl (lv_at hl 0 rfl) ?_
  refine va_get (D := (dC, dI)) (ci := 12) (v := .int (g 56)) (C := RX12) (T := TX12) (N := 71) hx hb hts inX12 hown hK hP 0 rfl rfl 56 (by decide) (hts (.fieldLink RX12 318 "SpellTurnerModel" "oldMany" "I") im_89) (fun _ h9 => h9) rfl dX12_old_3 ?_
  refine lv_iconst (v := 1) hx hb dX12_old_6 (by decide +kernel) ?_
  refine lv_isub hx hb dX12_old_7 ?_
  replace hr := b1S hr
  obtain ⟨r8z, hc8, hr⟩ := hr
  have hFc := fr_all hD hS hA
  refine va_calli (va_runS (As := [.int p0, .int 0, .int ((g 56) - 1)]) (rest := []) ⟨hx, hb, hml, hown, hts⟩ (m_in l dC dI H.size h0 kB kI kZ q g F p0 0 ((g 56) - 1) r8z hc8) (va_cwS 3 hts gw_X12_in_226 rfl rfl rfl (by decide +kernel) ⟨Nat.le_of_ble_eq_true rfl, Nat.le_of_ble_eq_true rfl⟩) ⟨fun a U g mk q => by obtain ⟨q0, q1, qP, qK, qD⟩ := q; exact ⟨q0, q1, qP, va_K.moved (u := U) (U := U.calling g mk a) (Vm.Alike.refl U.vm) qK, qD⟩, fun U hU hW => ⟨rfl, by rw [hU], by rw [hU]; exact hP, va_K.moved hW.alike hK, hD.weaken (fun _ _ _ _ => trivial)⟩⟩ rfl rfl hl.1 rfl (lv_room (Nat.le_of_ble_eq_true rfl)) dX12_old_8 ⟨Nat.le_of_ble_eq_true rfl, Nat.le_of_ble_eq_true rfl⟩) hS (fun q _ h => hFc q h) hFc (fun r8 u t H1 locs ht hvm hw hB hz1 hk1 hS => ?_)
  replace hw : r8 = r8z := hw
  subst hw
  obtain ⟨hP1, hK1, hD1⟩ := hB
  rw [ht] at hP1
  obtain ⟨hP, hD⟩ := jn_all (w1 := (mW h0 kB kI kZ q g F)) hFc hP1 hD1
  clear hFc hP1 hK1 hD1 hk1 hz1 ht hvm
  generalize H1 = H at hP hS ⊢
  have hP : va_P (dC, dI) vwCl (mW h0 kB kI kZ q g F) H := hP
  have hD : va_D A (mW h0 kB kI kZ q g F) := hD
  replace hr := jnS hr
  obtain ⟨j24, hj24, hr⟩ := hr
  have Jj24 : ∀ (t24_0 : Int32) (H : Heap) (locs : List Loc) (ls : Array Slot), j24 t24_0 = some r → va_P (dC, dI) vwCl (mW h0 kB kI kZ q g F) H → va_D A (mW h0 kB kI kZ q g F) → va_S A s.heap H locs → lv_has ls 2 [] → W p l e ({ frames := 3, cells := 0, slots := 0, locals := 82 } : Room) s m args below meth c H locs 0 0 Q (F0 m 24 ls [.int t24_0]) := by
    intro t24_0 H locs ls hr hP hD hS hl
    rw [hj24] at hr
    exact K 24 ls _ H _ hr dX12_old_24 hP hD hS
  refine lv_if_eq (tgt := 23) hx hb dX12_old_11 (by decide) (fun c11 => ?_) (fun c11 => ?_)
  · replace hr := iteT c11 hr
    refine lv_iconst (v := (-1)) hx hb dX12_old_23 (by decide +kernel) ?_
    exact Jj24 (-1) H _ ls hr hP hD hS (lv_sub hl [] rfl)
  · replace hr := iteF c11 hr
    refine lv_aload_n hx hb dX12_old_14 rfl (lv_at hl 0 rfl) ?_
    refine va_get (D := (dC, dI)) (ci := 12) (v := .ref (q 55)) (C := RX12) (T := TX12) (N := 71) hx hb hts inX12 hown hK hP 0 rfl rfl 55 (by decide) (hts (.fieldLink RX12 122 "SpellTurnerModel" "olds" "[I") im_90) (fun _ h9 => h9) rfl dX12_old_15 ?_
    refine lv_iload_n hx hb dX12_old_18 rfl (lv_at hl 1 rfl) ?_
    replace hr := iteS hr
    obtain ⟨hi19, hr⟩ := hr
    refine va_iald (f := (F 55)) hx hb hK hP 36 1 rfl rfl (inbV hi19) dX12_old_19 ?_
    refine lv_goto (tgt := 24) hx hb dX12_old_20 (by decide) ?_
    exact Jj24 ((F 55) (Int32.toNatClampNeg p0)) H _ ls hr hP hD hS (lv_sub hl [] rfl)
set_option maxHeartbeats 4000000 in
set_option maxRecDepth 100000 in
theorem m_old (l : Launch) (dC : Nat → ClassId) (dI : Nat → Nat → Nat) (sz : Nat) (h0 : Nat) (kB kI kZ : ClassId) (q : Nat → Nat) (g : Nat → Int32) (F : Nat → Nat → Int32) (p0 : Int32) (r : Int32) (hr : f_old g F p0 = some r) : Met l yX12_old vmX12_old ({ frames := 3, cells := 0, slots := 0, locals := 82 } : Room) (va_Pc [.ref h0, .int p0] (fun U => U.heap.size = sz ∧ va_P (dC, dI) vwCl (mW h0 kB kI kZ q g F) U.heap ∧ va_K (dC, dI) vwCl (mT kB kI kZ) U ∧ va_D (fun _ => True) (mW h0 kB kI kZ q g F))) (va_Qi (fun (rz : Int32) (_ : Unit) => rz = r) (fun _ t => va_P (dC, dI) vwCl (mW h0 kB kI kZ q g F) t.heap ∧ va_K (dC, dI) vwCl (mT kB kI kZ) t ∧ va_D (va_A (mW h0 kB kI kZ q g F) sz) (mW h0 kB kI kZ q g F)) (va_A (mW h0 kB kI kZ q g F) sz)) 0 0 (va_A (mW h0 kB kI kZ q g F) sz) := by
  refine Met.ofW (cc := cX12_old) (maxL := 2) (ret := (some .int)) (by decide) rfl ?_
  intro p e s m args below meth c s₁ B hml hv
  obtain ⟨rfl, hsz, hP, hK, hD0⟩ := hv
  have hx := B.exec
  have hb := B.bytes
  have hrt := B.returns
  have hts := atoms_spec (ws := vmX12_old) B.pre
  have hown : s.vm.findClass RX12 = some m.cls := findClass_of_methodNamed B.named
  subst hsz
  have hD := hD0.self (sz := s.heap.size)
  generalize hAe : va_A (mW h0 kB kI kZ q g F) s.heap.size = A at hD ⊢
  have hA : ∀ q : Nat, s.heap.size ≤ q → A q := fun q h => by rw [← hAe]; exact Or.inr h
  have hS : va_S A s.heap s.heap [] := va_S.rf
  have hl := lv_entry ([.ref h0, .int p0]) (n := 2) (Nat.le_of_ble_eq_true rfl)
  rw [lg_entry_eq]
  generalize (lg_sl ([.ref h0, .int p0]) ++ List.replicate (2 - (lg_sl ([.ref h0, .int p0])).length) Slot.unset).toArray = ls at hl ⊢
  exact bm_old p0 r hr hx hb hml hown hts hA hK hP hD hS hl (fun pc ls rz H locs he hd hP hD hS => by cases he; exact W.iret (v := r) hx hb hrt (fun t ht hW => ⟨⟨r, (), rfl, rfl, by rw [ht]; exact hP, va_K.moved hW.alike hK, hD⟩, hS.F ht⟩) hS.2.2 hd)
set_option maxHeartbeats 4000000 in
set_option maxRecDepth 100000 in
theorem bm_collision {p : Program} {l : Launch} {e : Env} {s : State} {m : MethodId} {args : Array Value} {below : List Frame} {meth : Method} {c : Code} {Q : State → Prop} {A : Nat → Prop} {dC : Nat → ClassId} {dI : Nat → Nat → Nat} {h0 : Nat} {kB kI kZ : ClassId} {q : Nat → Nat} {g : Nat → Int32} {F : Nat → Nat → Int32} {H : Heap} {locs : List Loc} {ls : Array Slot} (p0 : Int32) (r : Int32) (hr : f_collision g F p0 = some r) (hx : p.tables.exec = Jvm.exec) (hb : c.code = cX12_collision) (hml : c.maxLocals = 2) (hown : s.vm.findClass RX12 = some m.cls) (hts : ∀ w ∈ vmX12_collision, w.before args s = true) (hA : ∀ q : Nat, s.heap.size ≤ q → A q) (hK : va_K (dC, dI) vwCl (mT kB kI kZ) s) (hP : va_P (dC, dI) vwCl (mW h0 kB kI kZ q g F) H) (hD : va_D A (mW h0 kB kI kZ q g F)) (hS : va_S A s.heap H locs) (hl : lv_has ls 2 [(0, .ref h0), (1, .int p0)])
    (K : ∀ (pc : Nat) (ls : Array Slot) (rz : Int32) (H : Heap) (locs : List Loc), some rz = some r → decode cX12_collision pc = .ok (.ireturn, 1) → va_P (dC, dI) vwCl (mW h0 kB kI kZ q g F) H → va_D A (mW h0 kB kI kZ q g F) → va_S A s.heap H locs → W p l e ({ frames := 3, cells := 0, slots := 0, locals := 82 } : Room) s m args below meth c H locs 0 0 Q (F0 m pc ls [.int rz])) : W p l e ({ frames := 3, cells := 0, slots := 0, locals := 82 } : Room) s m args below meth c H locs 0 0 Q (F0 m 0 ls []) := by
  unfold f_collision at hr
  refine lv_iload_n hx hb dX12_collision_0 rfl (lv_at hl 1 rfl) ?_
  refine lv_iconst (v := 0) hx hb dX12_collision_1 (by decide +kernel) ?_
  refine lv_aload_n hx hb dX12_collision_2 rfl (lv_at hl 0 rfl) ?_
  refine va_get (D := (dC, dI)) (ci := 12) (v := .int (g 59)) (C := RX12) (T := TX12) (N := 71) hx hb hts inX12 hown hK hP 0 rfl rfl 59 (by decide) (hts (.fieldLink RX12 325 "SpellTurnerModel" "pairMany" "I") im_92) (fun _ h9 => h9) rfl dX12_collision_3 ?_
  refine lv_iconst (v := 1) hx hb dX12_collision_6 (by decide +kernel) ?_
  refine lv_isub hx hb dX12_collision_7 ?_
  replace hr := b1S hr
  obtain ⟨r8z, hc8, hr⟩ := hr
  have hFc := fr_all hD hS hA
  refine va_calli (va_runS (As := [.int p0, .int 0, .int ((g 59) - 1)]) (rest := []) ⟨hx, hb, hml, hown, hts⟩ (m_in l dC dI H.size h0 kB kI kZ q g F p0 0 ((g 59) - 1) r8z hc8) (va_cwS 3 hts gw_X12_in_226 rfl rfl rfl (by decide +kernel) ⟨Nat.le_of_ble_eq_true rfl, Nat.le_of_ble_eq_true rfl⟩) ⟨fun a U g mk q => by obtain ⟨q0, q1, qP, qK, qD⟩ := q; exact ⟨q0, q1, qP, va_K.moved (u := U) (U := U.calling g mk a) (Vm.Alike.refl U.vm) qK, qD⟩, fun U hU hW => ⟨rfl, by rw [hU], by rw [hU]; exact hP, va_K.moved hW.alike hK, hD.weaken (fun _ _ _ _ => trivial)⟩⟩ rfl rfl hl.1 rfl (lv_room (Nat.le_of_ble_eq_true rfl)) dX12_collision_8 ⟨Nat.le_of_ble_eq_true rfl, Nat.le_of_ble_eq_true rfl⟩) hS (fun q _ h => hFc q h) hFc (fun r8 u t H1 locs ht hvm hw hB hz1 hk1 hS => ?_)
  replace hw : r8 = r8z := hw
  subst hw
  obtain ⟨hP1, hK1, hD1⟩ := hB
  rw [ht] at hP1
  obtain ⟨hP, hD⟩ := jn_all (w1 := (mW h0 kB kI kZ q g F)) hFc hP1 hD1
  clear hFc hP1 hK1 hD1 hk1 hz1 ht hvm
  generalize H1 = H at hP hS ⊢
  have hP : va_P (dC, dI) vwCl (mW h0 kB kI kZ q g F) H := hP
  have hD : va_D A (mW h0 kB kI kZ q g F) := hD
  replace hr := jnS hr
  obtain ⟨j24, hj24, hr⟩ := hr
  have Jj24 : ∀ (t24_0 : Int32) (H : Heap) (locs : List Loc) (ls : Array Slot), j24 t24_0 = some r → va_P (dC, dI) vwCl (mW h0 kB kI kZ q g F) H → va_D A (mW h0 kB kI kZ q g F) → va_S A s.heap H locs → lv_has ls 2 [] → W p l e ({ frames := 3, cells := 0, slots := 0, locals := 82 } : Room) s m args below meth c H locs 0 0 Q (F0 m 24 ls [.int t24_0]) := by
    intro t24_0 H locs ls hr hP hD hS hl
    rw [hj24] at hr
    exact K 24 ls _ H _ hr dX12_collision_24 hP hD hS
  refine lv_if_eq (tgt := 23) hx hb dX12_collision_11 (by decide) (fun c11 => ?_) (fun c11 => ?_)
  · replace hr := iteT c11 hr
    refine lv_iconst (v := (-1)) hx hb dX12_collision_23 (by decide +kernel) ?_
    exact Jj24 (-1) H _ ls hr hP hD hS (lv_sub hl [] rfl)
  · replace hr := iteF c11 hr
    refine lv_aload_n hx hb dX12_collision_14 rfl (lv_at hl 0 rfl) ?_
    refine va_get (D := (dC, dI)) (ci := 12) (v := .ref (q 58)) (C := RX12) (T := TX12) (N := 71) hx hb hts inX12 hown hK hP 0 rfl rfl 58 (by decide) (hts (.fieldLink RX12 128 "SpellTurnerModel" "pairs" "[I") im_93) (fun _ h9 => h9) rfl dX12_collision_15 ?_
    refine lv_iload_n hx hb dX12_collision_18 rfl (lv_at hl 1 rfl) ?_
    replace hr := iteS hr
    obtain ⟨hi19, hr⟩ := hr
    refine va_iald (f := (F 58)) hx hb hK hP 38 1 rfl rfl (inbV hi19) dX12_collision_19 ?_
    refine lv_goto (tgt := 24) hx hb dX12_collision_20 (by decide) ?_
    exact Jj24 ((F 58) (Int32.toNatClampNeg p0)) H _ ls hr hP hD hS (lv_sub hl [] rfl)
set_option maxHeartbeats 4000000 in
set_option maxRecDepth 100000 in
theorem m_collision (l : Launch) (dC : Nat → ClassId) (dI : Nat → Nat → Nat) (sz : Nat) (h0 : Nat) (kB kI kZ : ClassId) (q : Nat → Nat) (g : Nat → Int32) (F : Nat → Nat → Int32) (p0 : Int32) (r : Int32) (hr : f_collision g F p0 = some r) : Met l yX12_collision vmX12_collision ({ frames := 3, cells := 0, slots := 0, locals := 82 } : Room) (va_Pc [.ref h0, .int p0] (fun U => U.heap.size = sz ∧ va_P (dC, dI) vwCl (mW h0 kB kI kZ q g F) U.heap ∧ va_K (dC, dI) vwCl (mT kB kI kZ) U ∧ va_D (fun _ => True) (mW h0 kB kI kZ q g F))) (va_Qi (fun (rz : Int32) (_ : Unit) => rz = r) (fun _ t => va_P (dC, dI) vwCl (mW h0 kB kI kZ q g F) t.heap ∧ va_K (dC, dI) vwCl (mT kB kI kZ) t ∧ va_D (va_A (mW h0 kB kI kZ q g F) sz) (mW h0 kB kI kZ q g F)) (va_A (mW h0 kB kI kZ q g F) sz)) 0 0 (va_A (mW h0 kB kI kZ q g F) sz) := by
  refine Met.ofW (cc := cX12_collision) (maxL := 2) (ret := (some .int)) (by decide) rfl ?_
  intro p e s m args below meth c s₁ B hml hv
  obtain ⟨rfl, hsz, hP, hK, hD0⟩ := hv
  have hx := B.exec
  have hb := B.bytes
  have hrt := B.returns
  have hts := atoms_spec (ws := vmX12_collision) B.pre
  have hown : s.vm.findClass RX12 = some m.cls := findClass_of_methodNamed B.named
  subst hsz
  have hD := hD0.self (sz := s.heap.size)
  generalize hAe : va_A (mW h0 kB kI kZ q g F) s.heap.size = A at hD ⊢
  have hA : ∀ q : Nat, s.heap.size ≤ q → A q := fun q h => by rw [← hAe]; exact Or.inr h
  have hS : va_S A s.heap s.heap [] := va_S.rf
  have hl := lv_entry ([.ref h0, .int p0]) (n := 2) (Nat.le_of_ble_eq_true rfl)
  rw [lg_entry_eq]
  generalize (lg_sl ([.ref h0, .int p0]) ++ List.replicate (2 - (lg_sl ([.ref h0, .int p0])).length) Slot.unset).toArray = ls at hl ⊢
  exact bm_collision p0 r hr hx hb hml hown hts hA hK hP hD hS hl (fun pc ls rz H locs he hd hP hD hS => by cases he; exact W.iret (v := r) hx hb hrt (fun t ht hW => ⟨⟨r, (), rfl, rfl, by rw [ht]; exact hP, va_K.moved hW.alike hK, hD⟩, hS.F ht⟩) hS.2.2 hd)
set_option maxHeartbeats 4000000 in
set_option maxRecDepth 100000 in
theorem bm_written {p : Program} {l : Launch} {e : Env} {s : State} {m : MethodId} {args : Array Value} {below : List Frame} {meth : Method} {c : Code} {Q : State → Prop} {A : Nat → Prop} {dC : Nat → ClassId} {dI : Nat → Nat → Nat} {h0 : Nat} {kB kI kZ : ClassId} {q : Nat → Nat} {g : Nat → Int32} {F : Nat → Nat → Int32} {H : Heap} {locs : List Loc} {ls : Array Slot} (p0 : Int32) (r : Int32) (hr : f_written g F p0 = some r) (hx : p.tables.exec = Jvm.exec) (hb : c.code = cX12_written) (hml : c.maxLocals = 2) (hown : s.vm.findClass RX12 = some m.cls) (hts : ∀ w ∈ vmX12_written, w.before args s = true) (hA : ∀ q : Nat, s.heap.size ≤ q → A q) (hK : va_K (dC, dI) vwCl (mT kB kI kZ) s) (hP : va_P (dC, dI) vwCl (mW h0 kB kI kZ q g F) H) (hD : va_D A (mW h0 kB kI kZ q g F)) (hS : va_S A s.heap H locs) (hl : lv_has ls 2 [(0, .ref h0), (1, .int p0)])
    (K : ∀ (pc : Nat) (ls : Array Slot) (rz : Int32) (H : Heap) (locs : List Loc), some rz = some r → decode cX12_written pc = .ok (.ireturn, 1) → va_P (dC, dI) vwCl (mW h0 kB kI kZ q g F) H → va_D A (mW h0 kB kI kZ q g F) → va_S A s.heap H locs → W p l e ({ frames := 3, cells := 0, slots := 0, locals := 82 } : Room) s m args below meth c H locs 0 0 Q (F0 m pc ls [.int rz])) : W p l e ({ frames := 3, cells := 0, slots := 0, locals := 82 } : Room) s m args below meth c H locs 0 0 Q (F0 m 0 ls []) := by
  unfold f_written at hr
  refine lv_iload_n hx hb dX12_written_0 rfl (lv_at hl 1 rfl) ?_
  refine lv_iconst (v := 0) hx hb dX12_written_1 (by decide +kernel) ?_
  refine lv_aload_n hx hb dX12_written_2 rfl (lv_at hl 0 rfl) ?_
  refine va_get (D := (dC, dI)) (ci := 12) (v := .int (g 62)) (C := RX12) (T := TX12) (N := 71) hx hb hts inX12 hown hK hP 0 rfl rfl 62 (by decide) (hts (.fieldLink RX12 361 "SpellTurnerModel" "texted" "I") im_95) (fun _ h9 => h9) rfl dX12_written_3 ?_
  refine lv_iconst (v := 1) hx hb dX12_written_6 (by decide +kernel) ?_
  refine lv_isub hx hb dX12_written_7 ?_
  replace hr := b1S hr
  obtain ⟨r8z, hc8, hr⟩ := hr
  have hFc := fr_all hD hS hA
  refine va_calli (va_runS (As := [.int p0, .int 0, .int ((g 62) - 1)]) (rest := []) ⟨hx, hb, hml, hown, hts⟩ (m_in l dC dI H.size h0 kB kI kZ q g F p0 0 ((g 62) - 1) r8z hc8) (va_cwS 3 hts gw_X12_in_226 rfl rfl rfl (by decide +kernel) ⟨Nat.le_of_ble_eq_true rfl, Nat.le_of_ble_eq_true rfl⟩) ⟨fun a U g mk q => by obtain ⟨q0, q1, qP, qK, qD⟩ := q; exact ⟨q0, q1, qP, va_K.moved (u := U) (U := U.calling g mk a) (Vm.Alike.refl U.vm) qK, qD⟩, fun U hU hW => ⟨rfl, by rw [hU], by rw [hU]; exact hP, va_K.moved hW.alike hK, hD.weaken (fun _ _ _ _ => trivial)⟩⟩ rfl rfl hl.1 rfl (lv_room (Nat.le_of_ble_eq_true rfl)) dX12_written_8 ⟨Nat.le_of_ble_eq_true rfl, Nat.le_of_ble_eq_true rfl⟩) hS (fun q _ h => hFc q h) hFc (fun r8 u t H1 locs ht hvm hw hB hz1 hk1 hS => ?_)
  replace hw : r8 = r8z := hw
  subst hw
  obtain ⟨hP1, hK1, hD1⟩ := hB
  rw [ht] at hP1
  obtain ⟨hP, hD⟩ := jn_all (w1 := (mW h0 kB kI kZ q g F)) hFc hP1 hD1
  clear hFc hP1 hK1 hD1 hk1 hz1 ht hvm
  generalize H1 = H at hP hS ⊢
  have hP : va_P (dC, dI) vwCl (mW h0 kB kI kZ q g F) H := hP
  have hD : va_D A (mW h0 kB kI kZ q g F) := hD
  replace hr := jnS hr
  obtain ⟨j28, hj28, hr⟩ := hr
  have Jj28 : ∀ (t28_0 : Int32) (H : Heap) (locs : List Loc) (ls : Array Slot), j28 t28_0 = some r → va_P (dC, dI) vwCl (mW h0 kB kI kZ q g F) H → va_D A (mW h0 kB kI kZ q g F) → va_S A s.heap H locs → lv_has ls 2 [] → W p l e ({ frames := 3, cells := 0, slots := 0, locals := 82 } : Room) s m args below meth c H locs 0 0 Q (F0 m 28 ls [.int t28_0]) := by
    intro t28_0 H locs ls hr hP hD hS hl
    rw [hj28] at hr
    exact K 28 ls _ H _ hr dX12_written_28 hP hD hS
  refine lv_if_eq (tgt := 27) hx hb dX12_written_11 (by decide) (fun c11 => ?_) (fun c11 => ?_)
  · replace hr := iteT c11 hr
    refine lv_iconst (v := (-1)) hx hb dX12_written_27 (by decide +kernel) ?_
    exact Jj28 (-1) H _ ls hr hP hD hS (lv_sub hl [] rfl)
  · replace hr := iteF c11 hr
    refine lv_aload_n hx hb dX12_written_14 rfl (lv_at hl 0 rfl) ?_
    refine va_get (D := (dC, dI)) (ci := 12) (v := .ref (q 60)) (C := RX12) (T := TX12) (N := 71) hx hb hts inX12 hown hK hP 0 rfl rfl 60 (by decide) (hts (.fieldLink RX12 131 "SpellTurnerModel" "text" "[B") im_96) (fun _ h9 => h9) rfl dX12_written_15 ?_
    refine lv_iload_n hx hb dX12_written_18 rfl (lv_at hl 1 rfl) ?_
    replace hr := iteS hr
    obtain ⟨hi19, hr⟩ := hr
    refine va_bald (f := (F 60)) hx hb hK hP 39 0 rfl rfl (inbV hi19) dX12_written_19 ?_
    refine lv_sipush (v := 255) hx hb dX12_written_20 (by decide +kernel) ?_
    refine lv_iand hx hb dX12_written_23 ?_
    refine lv_goto (tgt := 28) hx hb dX12_written_24 (by decide) ?_
    exact Jj28 (((F 60) (Int32.toNatClampNeg p0)) &&& 255) H _ ls hr hP hD hS (lv_sub hl [] rfl)
set_option maxHeartbeats 4000000 in
set_option maxRecDepth 100000 in
theorem m_written (l : Launch) (dC : Nat → ClassId) (dI : Nat → Nat → Nat) (sz : Nat) (h0 : Nat) (kB kI kZ : ClassId) (q : Nat → Nat) (g : Nat → Int32) (F : Nat → Nat → Int32) (p0 : Int32) (r : Int32) (hr : f_written g F p0 = some r) : Met l yX12_written vmX12_written ({ frames := 3, cells := 0, slots := 0, locals := 82 } : Room) (va_Pc [.ref h0, .int p0] (fun U => U.heap.size = sz ∧ va_P (dC, dI) vwCl (mW h0 kB kI kZ q g F) U.heap ∧ va_K (dC, dI) vwCl (mT kB kI kZ) U ∧ va_D (fun _ => True) (mW h0 kB kI kZ q g F))) (va_Qi (fun (rz : Int32) (_ : Unit) => rz = r) (fun _ t => va_P (dC, dI) vwCl (mW h0 kB kI kZ q g F) t.heap ∧ va_K (dC, dI) vwCl (mT kB kI kZ) t ∧ va_D (va_A (mW h0 kB kI kZ q g F) sz) (mW h0 kB kI kZ q g F)) (va_A (mW h0 kB kI kZ q g F) sz)) 0 0 (va_A (mW h0 kB kI kZ q g F) sz) := by
  refine Met.ofW (cc := cX12_written) (maxL := 2) (ret := (some .int)) (by decide) rfl ?_
  intro p e s m args below meth c s₁ B hml hv
  obtain ⟨rfl, hsz, hP, hK, hD0⟩ := hv
  have hx := B.exec
  have hb := B.bytes
  have hrt := B.returns
  have hts := atoms_spec (ws := vmX12_written) B.pre
  have hown : s.vm.findClass RX12 = some m.cls := findClass_of_methodNamed B.named
  subst hsz
  have hD := hD0.self (sz := s.heap.size)
  generalize hAe : va_A (mW h0 kB kI kZ q g F) s.heap.size = A at hD ⊢
  have hA : ∀ q : Nat, s.heap.size ≤ q → A q := fun q h => by rw [← hAe]; exact Or.inr h
  have hS : va_S A s.heap s.heap [] := va_S.rf
  have hl := lv_entry ([.ref h0, .int p0]) (n := 2) (Nat.le_of_ble_eq_true rfl)
  rw [lg_entry_eq]
  generalize (lg_sl ([.ref h0, .int p0]) ++ List.replicate (2 - (lg_sl ([.ref h0, .int p0])).length) Slot.unset).toArray = ls at hl ⊢
  exact bm_written p0 r hr hx hb hml hown hts hA hK hP hD hS hl (fun pc ls rz H locs he hd hP hD hS => by cases he; exact W.iret (v := r) hx hb hrt (fun t ht hW => ⟨⟨r, (), rfl, rfl, by rw [ht]; exact hP, va_K.moved hW.alike hK, hD⟩, hS.F ht⟩) hS.2.2 hd)
set_option maxHeartbeats 4000000 in
set_option maxRecDepth 100000 in
theorem bm_counted {p : Program} {l : Launch} {e : Env} {s : State} {m : MethodId} {args : Array Value} {below : List Frame} {meth : Method} {c : Code} {Q : State → Prop} {A : Nat → Prop} {dC : Nat → ClassId} {dI : Nat → Nat → Nat} {h0 : Nat} {kB kI kZ : ClassId} {q : Nat → Nat} {g : Nat → Int32} {F : Nat → Nat → Int32} {H : Heap} {locs : List Loc} {ls : Array Slot} (p0 : Int32) (r : Int32) (hr : f_counted g F p0 = some r) (hx : p.tables.exec = Jvm.exec) (hb : c.code = cX12_counted) (hml : c.maxLocals = 2) (hown : s.vm.findClass RX12 = some m.cls) (hts : ∀ w ∈ vmX12_counted, w.before args s = true) (hA : ∀ q : Nat, s.heap.size ≤ q → A q) (hK : va_K (dC, dI) vwCl (mT kB kI kZ) s) (hP : va_P (dC, dI) vwCl (mW h0 kB kI kZ q g F) H) (hD : va_D A (mW h0 kB kI kZ q g F)) (hS : va_S A s.heap H locs) (hl : lv_has ls 2 [(0, .ref h0), (1, .int p0)])
    (K : ∀ (pc : Nat) (ls : Array Slot) (rz : Int32) (H : Heap) (locs : List Loc), some rz = some r → decode cX12_counted pc = .ok (.ireturn, 1) → va_P (dC, dI) vwCl (mW h0 kB kI kZ q g F) H → va_D A (mW h0 kB kI kZ q g F) → va_S A s.heap H locs → W p l e ({ frames := 3, cells := 0, slots := 0, locals := 82 } : Room) s m args below meth c H locs 0 0 Q (F0 m pc ls [.int rz])) : W p l e ({ frames := 3, cells := 0, slots := 0, locals := 82 } : Room) s m args below meth c H locs 0 0 Q (F0 m 0 ls []) := by
  unfold f_counted at hr
  refine lv_aload_n hx hb dX12_counted_0 rfl (lv_at hl 0 rfl) ?_
  refine va_get (D := (dC, dI)) (ci := 12) (v := .int (g 65)) (C := RX12) (T := TX12) (N := 71) hx hb hts inX12 hown hK hP 0 rfl rfl 65 (by decide) (hts (.fieldLink RX12 364 "SpellTurnerModel" "hasText" "Z") im_98) (fun _ h9 => h9) rfl dX12_counted_1 ?_
  replace hr := jnS hr
  obtain ⟨j26, hj26, hr⟩ := hr
  have Jj26 : ∀ (t26_0 : Int32) (H : Heap) (locs : List Loc) (ls : Array Slot), j26 t26_0 = some r → va_P (dC, dI) vwCl (mW h0 kB kI kZ q g F) H → va_D A (mW h0 kB kI kZ q g F) → va_S A s.heap H locs → lv_has ls 2 [] → W p l e ({ frames := 3, cells := 0, slots := 0, locals := 82 } : Room) s m args below meth c H locs 0 0 Q (F0 m 26 ls [.int t26_0]) := by
    intro t26_0 H locs ls hr hP hD hS hl
    rw [hj26] at hr
    exact K 26 ls _ H _ hr dX12_counted_26 hP hD hS
  replace hr := jnS hr
  obtain ⟨j25, hj25, hr⟩ := hr
  have Jj25 : ∀ (H : Heap) (locs : List Loc) (ls : Array Slot), j25 () = some r → va_P (dC, dI) vwCl (mW h0 kB kI kZ q g F) H → va_D A (mW h0 kB kI kZ q g F) → va_S A s.heap H locs → lv_has ls 2 [] → W p l e ({ frames := 3, cells := 0, slots := 0, locals := 82 } : Room) s m args below meth c H locs 0 0 Q (F0 m 25 ls []) := by
    intro H locs ls hr hP hD hS hl
    rw [hj25] at hr
    refine lv_iconst (v := (-1)) hx hb dX12_counted_25 (by decide +kernel) ?_
    exact Jj26 (-1) H _ ls hr hP hD hS (lv_sub hl [] rfl)
  refine lv_if_eq (tgt := 25) hx hb dX12_counted_4 (by decide) (fun c4 => ?_) (fun c4 => ?_)
  · replace hr := iteT c4 hr
    exact Jj25 H _ ls hr hP hD hS (lv_sub hl [] rfl)
  · replace hr := iteF c4 hr
    refine lv_iload_n hx hb dX12_counted_7 rfl (lv_at hl 1 rfl) ?_
    refine lv_iconst (v := 0) hx hb dX12_counted_8 (by decide +kernel) ?_
    refine lv_iconst (v := 4) hx hb dX12_counted_9 (by decide +kernel) ?_
    replace hr := b1S hr
    obtain ⟨r10z, hc10, hr⟩ := hr
    have hFc := fr_all hD hS hA
    refine va_calli (va_runS (As := [.int p0, .int 0, .int 4]) (rest := []) ⟨hx, hb, hml, hown, hts⟩ (m_in l dC dI H.size h0 kB kI kZ q g F p0 0 4 r10z hc10) (va_cwS 3 hts gw_X12_in_226 rfl rfl rfl (by decide +kernel) ⟨Nat.le_of_ble_eq_true rfl, Nat.le_of_ble_eq_true rfl⟩) ⟨fun a U g mk q => by obtain ⟨q0, q1, qP, qK, qD⟩ := q; exact ⟨q0, q1, qP, va_K.moved (u := U) (U := U.calling g mk a) (Vm.Alike.refl U.vm) qK, qD⟩, fun U hU hW => ⟨rfl, by rw [hU], by rw [hU]; exact hP, va_K.moved hW.alike hK, hD.weaken (fun _ _ _ _ => trivial)⟩⟩ rfl rfl hl.1 rfl (lv_room (Nat.le_of_ble_eq_true rfl)) dX12_counted_10 ⟨Nat.le_of_ble_eq_true rfl, Nat.le_of_ble_eq_true rfl⟩) hS (fun q _ h => hFc q h) hFc (fun r10 u t H1 locs ht hvm hw hB hz1 hk1 hS => ?_)
    replace hw : r10 = r10z := hw
    subst hw
    obtain ⟨hP1, hK1, hD1⟩ := hB
    rw [ht] at hP1
    obtain ⟨hP, hD⟩ := jn_all (w1 := (mW h0 kB kI kZ q g F)) hFc hP1 hD1
    clear hFc hP1 hK1 hD1 hk1 hz1 ht hvm
    generalize H1 = H at hP hS ⊢
    have hP : va_P (dC, dI) vwCl (mW h0 kB kI kZ q g F) H := hP
    have hD : va_D A (mW h0 kB kI kZ q g F) := hD
    refine lv_if_eq (tgt := 25) hx hb dX12_counted_13 (by decide) (fun c13 => ?_) (fun c13 => ?_)
    · replace hr := iteT c13 hr
      exact Jj25 H _ ls hr hP hD hS (lv_sub hl [] rfl)
    · replace hr := iteF c13 hr
      refine lv_aload_n hx hb dX12_counted_16 rfl (lv_at hl 0 rfl) ?_
      refine va_get (D := (dC, dI)) (ci := 12) (v := .ref (q 63)) (C := RX12) (T := TX12) (N := 71) hx hb hts inX12 hown hK hP 0 rfl rfl 63 (by decide) (hts (.fieldLink RX12 137 "SpellTurnerModel" "counts" "[I") im_99) (fun _ h9 => h9) rfl dX12_counted_17 ?_
      refine lv_iload_n hx hb dX12_counted_20 rfl (lv_at hl 1 rfl) ?_
      replace hr := iteS hr
      obtain ⟨hi21, hr⟩ := hr
      refine va_iald (f := (F 63)) hx hb hK hP 41 1 rfl rfl (inbV hi21) dX12_counted_21 ?_
      refine lv_goto (tgt := 26) hx hb dX12_counted_22 (by decide) ?_
      exact Jj26 ((F 63) (Int32.toNatClampNeg p0)) H _ ls hr hP hD hS (lv_sub hl [] rfl)
set_option maxHeartbeats 4000000 in
set_option maxRecDepth 100000 in
theorem m_counted (l : Launch) (dC : Nat → ClassId) (dI : Nat → Nat → Nat) (sz : Nat) (h0 : Nat) (kB kI kZ : ClassId) (q : Nat → Nat) (g : Nat → Int32) (F : Nat → Nat → Int32) (p0 : Int32) (r : Int32) (hr : f_counted g F p0 = some r) : Met l yX12_counted vmX12_counted ({ frames := 3, cells := 0, slots := 0, locals := 82 } : Room) (va_Pc [.ref h0, .int p0] (fun U => U.heap.size = sz ∧ va_P (dC, dI) vwCl (mW h0 kB kI kZ q g F) U.heap ∧ va_K (dC, dI) vwCl (mT kB kI kZ) U ∧ va_D (fun _ => True) (mW h0 kB kI kZ q g F))) (va_Qi (fun (rz : Int32) (_ : Unit) => rz = r) (fun _ t => va_P (dC, dI) vwCl (mW h0 kB kI kZ q g F) t.heap ∧ va_K (dC, dI) vwCl (mT kB kI kZ) t ∧ va_D (va_A (mW h0 kB kI kZ q g F) sz) (mW h0 kB kI kZ q g F)) (va_A (mW h0 kB kI kZ q g F) sz)) 0 0 (va_A (mW h0 kB kI kZ q g F) sz) := by
  refine Met.ofW (cc := cX12_counted) (maxL := 2) (ret := (some .int)) (by decide) rfl ?_
  intro p e s m args below meth c s₁ B hml hv
  obtain ⟨rfl, hsz, hP, hK, hD0⟩ := hv
  have hx := B.exec
  have hb := B.bytes
  have hrt := B.returns
  have hts := atoms_spec (ws := vmX12_counted) B.pre
  have hown : s.vm.findClass RX12 = some m.cls := findClass_of_methodNamed B.named
  subst hsz
  have hD := hD0.self (sz := s.heap.size)
  generalize hAe : va_A (mW h0 kB kI kZ q g F) s.heap.size = A at hD ⊢
  have hA : ∀ q : Nat, s.heap.size ≤ q → A q := fun q h => by rw [← hAe]; exact Or.inr h
  have hS : va_S A s.heap s.heap [] := va_S.rf
  have hl := lv_entry ([.ref h0, .int p0]) (n := 2) (Nat.le_of_ble_eq_true rfl)
  rw [lg_entry_eq]
  generalize (lg_sl ([.ref h0, .int p0]) ++ List.replicate (2 - (lg_sl ([.ref h0, .int p0])).length) Slot.unset).toArray = ls at hl ⊢
  exact bm_counted p0 r hr hx hb hml hown hts hA hK hP hD hS hl (fun pc ls rz H locs he hd hP hD hS => by cases he; exact W.iret (v := r) hx hb hrt (fun t ht hW => ⟨⟨r, (), rfl, rfl, by rw [ht]; exact hP, va_K.moved hW.alike hK, hD⟩, hS.F ht⟩) hS.2.2 hd)
set_option maxHeartbeats 4000000 in
set_option maxRecDepth 100000 in
theorem bm_line {p : Program} {l : Launch} {e : Env} {s : State} {m : MethodId} {args : Array Value} {below : List Frame} {meth : Method} {c : Code} {Q : State → Prop} {A : Nat → Prop} {dC : Nat → ClassId} {dI : Nat → Nat → Nat} {h0 : Nat} {kB kI kZ : ClassId} {q : Nat → Nat} {g : Nat → Int32} {F : Nat → Nat → Int32} {H : Heap} {locs : List Loc} {ls : Array Slot} (p0 : Int32) (r : Int32) (hr : f_line g F p0 = some r) (hx : p.tables.exec = Jvm.exec) (hb : c.code = cX12_line) (hml : c.maxLocals = 2) (hown : s.vm.findClass RX12 = some m.cls) (hts : ∀ w ∈ vmX12_line, w.before args s = true) (hA : ∀ q : Nat, s.heap.size ≤ q → A q) (hK : va_K (dC, dI) vwCl (mT kB kI kZ) s) (hP : va_P (dC, dI) vwCl (mW h0 kB kI kZ q g F) H) (hD : va_D A (mW h0 kB kI kZ q g F)) (hS : va_S A s.heap H locs) (hl : lv_has ls 2 [(0, .ref h0), (1, .int p0)])
    (K : ∀ (pc : Nat) (ls : Array Slot) (rz : Int32) (H : Heap) (locs : List Loc), some rz = some r → decode cX12_line pc = .ok (.ireturn, 1) → va_P (dC, dI) vwCl (mW h0 kB kI kZ q g F) H → va_D A (mW h0 kB kI kZ q g F) → va_S A s.heap H locs → W p l e ({ frames := 3, cells := 0, slots := 0, locals := 82 } : Room) s m args below meth c H locs 0 0 Q (F0 m pc ls [.int rz])) : W p l e ({ frames := 3, cells := 0, slots := 0, locals := 82 } : Room) s m args below meth c H locs 0 0 Q (F0 m 0 ls []) := by
  unfold f_line at hr
  refine lv_iload_n hx hb dX12_line_0 rfl (lv_at hl 1 rfl) ?_
  refine lv_iconst (v := 0) hx hb dX12_line_1 (by decide +kernel) ?_
  refine lv_aload_n hx hb dX12_line_2 rfl (lv_at hl 0 rfl) ?_
  refine va_get (D := (dC, dI)) (ci := 12) (v := .int (g 70)) (C := RX12) (T := TX12) (N := 71) hx hb hts inX12 hown hK hP 0 rfl rfl 70 (by decide) (hts (.fieldLink RX12 374 "SpellTurnerModel" "lines" "I") im_101) (fun _ h9 => h9) rfl dX12_line_3 ?_
  refine lv_iconst (v := 1) hx hb dX12_line_6 (by decide +kernel) ?_
  refine lv_isub hx hb dX12_line_7 ?_
  replace hr := b1S hr
  obtain ⟨r8z, hc8, hr⟩ := hr
  have hFc := fr_all hD hS hA
  refine va_calli (va_runS (As := [.int p0, .int 0, .int ((g 70) - 1)]) (rest := []) ⟨hx, hb, hml, hown, hts⟩ (m_in l dC dI H.size h0 kB kI kZ q g F p0 0 ((g 70) - 1) r8z hc8) (va_cwS 3 hts gw_X12_in_226 rfl rfl rfl (by decide +kernel) ⟨Nat.le_of_ble_eq_true rfl, Nat.le_of_ble_eq_true rfl⟩) ⟨fun a U g mk q => by obtain ⟨q0, q1, qP, qK, qD⟩ := q; exact ⟨q0, q1, qP, va_K.moved (u := U) (U := U.calling g mk a) (Vm.Alike.refl U.vm) qK, qD⟩, fun U hU hW => ⟨rfl, by rw [hU], by rw [hU]; exact hP, va_K.moved hW.alike hK, hD.weaken (fun _ _ _ _ => trivial)⟩⟩ rfl rfl hl.1 rfl (lv_room (Nat.le_of_ble_eq_true rfl)) dX12_line_8 ⟨Nat.le_of_ble_eq_true rfl, Nat.le_of_ble_eq_true rfl⟩) hS (fun q _ h => hFc q h) hFc (fun r8 u t H1 locs ht hvm hw hB hz1 hk1 hS => ?_)
  replace hw : r8 = r8z := hw
  subst hw
  obtain ⟨hP1, hK1, hD1⟩ := hB
  rw [ht] at hP1
  obtain ⟨hP, hD⟩ := jn_all (w1 := (mW h0 kB kI kZ q g F)) hFc hP1 hD1
  clear hFc hP1 hK1 hD1 hk1 hz1 ht hvm
  generalize H1 = H at hP hS ⊢
  have hP : va_P (dC, dI) vwCl (mW h0 kB kI kZ q g F) H := hP
  have hD : va_D A (mW h0 kB kI kZ q g F) := hD
  replace hr := jnS hr
  obtain ⟨j24, hj24, hr⟩ := hr
  have Jj24 : ∀ (t24_0 : Int32) (H : Heap) (locs : List Loc) (ls : Array Slot), j24 t24_0 = some r → va_P (dC, dI) vwCl (mW h0 kB kI kZ q g F) H → va_D A (mW h0 kB kI kZ q g F) → va_S A s.heap H locs → lv_has ls 2 [] → W p l e ({ frames := 3, cells := 0, slots := 0, locals := 82 } : Room) s m args below meth c H locs 0 0 Q (F0 m 24 ls [.int t24_0]) := by
    intro t24_0 H locs ls hr hP hD hS hl
    rw [hj24] at hr
    exact K 24 ls _ H _ hr dX12_line_24 hP hD hS
  refine lv_if_eq (tgt := 23) hx hb dX12_line_11 (by decide) (fun c11 => ?_) (fun c11 => ?_)
  · replace hr := iteT c11 hr
    refine lv_iconst (v := (-1)) hx hb dX12_line_23 (by decide +kernel) ?_
    exact Jj24 (-1) H _ ls hr hP hD hS (lv_sub hl [] rfl)
  · replace hr := iteF c11 hr
    refine lv_aload_n hx hb dX12_line_14 rfl (lv_at hl 0 rfl) ?_
    refine va_get (D := (dC, dI)) (ci := 12) (v := .ref (q 69)) (C := RX12) (T := TX12) (N := 71) hx hb hts inX12 hown hK hP 0 rfl rfl 69 (by decide) (hts (.fieldLink RX12 149 "SpellTurnerModel" "stageOf" "[I") im_102) (fun _ h9 => h9) rfl dX12_line_15 ?_
    refine lv_iload_n hx hb dX12_line_18 rfl (lv_at hl 1 rfl) ?_
    replace hr := iteS hr
    obtain ⟨hi19, hr⟩ := hr
    refine va_iald (f := (F 69)) hx hb hK hP 45 1 rfl rfl (inbV hi19) dX12_line_19 ?_
    refine lv_goto (tgt := 24) hx hb dX12_line_20 (by decide) ?_
    exact Jj24 ((F 69) (Int32.toNatClampNeg p0)) H _ ls hr hP hD hS (lv_sub hl [] rfl)
set_option maxHeartbeats 4000000 in
set_option maxRecDepth 100000 in
theorem m_line (l : Launch) (dC : Nat → ClassId) (dI : Nat → Nat → Nat) (sz : Nat) (h0 : Nat) (kB kI kZ : ClassId) (q : Nat → Nat) (g : Nat → Int32) (F : Nat → Nat → Int32) (p0 : Int32) (r : Int32) (hr : f_line g F p0 = some r) : Met l yX12_line vmX12_line ({ frames := 3, cells := 0, slots := 0, locals := 82 } : Room) (va_Pc [.ref h0, .int p0] (fun U => U.heap.size = sz ∧ va_P (dC, dI) vwCl (mW h0 kB kI kZ q g F) U.heap ∧ va_K (dC, dI) vwCl (mT kB kI kZ) U ∧ va_D (fun _ => True) (mW h0 kB kI kZ q g F))) (va_Qi (fun (rz : Int32) (_ : Unit) => rz = r) (fun _ t => va_P (dC, dI) vwCl (mW h0 kB kI kZ q g F) t.heap ∧ va_K (dC, dI) vwCl (mT kB kI kZ) t ∧ va_D (va_A (mW h0 kB kI kZ q g F) sz) (mW h0 kB kI kZ q g F)) (va_A (mW h0 kB kI kZ q g F) sz)) 0 0 (va_A (mW h0 kB kI kZ q g F) sz) := by
  refine Met.ofW (cc := cX12_line) (maxL := 2) (ret := (some .int)) (by decide) rfl ?_
  intro p e s m args below meth c s₁ B hml hv
  obtain ⟨rfl, hsz, hP, hK, hD0⟩ := hv
  have hx := B.exec
  have hb := B.bytes
  have hrt := B.returns
  have hts := atoms_spec (ws := vmX12_line) B.pre
  have hown : s.vm.findClass RX12 = some m.cls := findClass_of_methodNamed B.named
  subst hsz
  have hD := hD0.self (sz := s.heap.size)
  generalize hAe : va_A (mW h0 kB kI kZ q g F) s.heap.size = A at hD ⊢
  have hA : ∀ q : Nat, s.heap.size ≤ q → A q := fun q h => by rw [← hAe]; exact Or.inr h
  have hS : va_S A s.heap s.heap [] := va_S.rf
  have hl := lv_entry ([.ref h0, .int p0]) (n := 2) (Nat.le_of_ble_eq_true rfl)
  rw [lg_entry_eq]
  generalize (lg_sl ([.ref h0, .int p0]) ++ List.replicate (2 - (lg_sl ([.ref h0, .int p0])).length) Slot.unset).toArray = ls at hl ⊢
  exact bm_line p0 r hr hx hb hml hown hts hA hK hP hD hS hl (fun pc ls rz H locs he hd hP hD hS => by cases he; exact W.iret (v := r) hx hb hrt (fun t ht hW => ⟨⟨r, (), rfl, rfl, by rw [ht]; exact hP, va_K.moved hW.alike hK, hD⟩, hS.F ht⟩) hS.2.2 hd)
set_option maxHeartbeats 4000000 in
set_option maxRecDepth 100000 in
theorem bm_count {p : Program} {l : Launch} {e : Env} {s : State} {m : MethodId} {args : Array Value} {below : List Frame} {meth : Method} {c : Code} {Q : State → Prop} {A : Nat → Prop} {dC : Nat → ClassId} {dI : Nat → Nat → Nat} {h0 : Nat} {kB kI kZ : ClassId} {q : Nat → Nat} {g : Nat → Int32} {F : Nat → Nat → Int32} {H : Heap} {locs : List Loc} {ls : Array Slot} (p0 : Int32) (r : Int32) (hr : f_count g F p0 = some r) (hx : p.tables.exec = Jvm.exec) (hb : c.code = cX12_count) (hml : c.maxLocals = 2) (hown : s.vm.findClass RX12 = some m.cls) (hts : ∀ w ∈ vmX12_count, w.before args s = true) (hA : ∀ q : Nat, s.heap.size ≤ q → A q) (hK : va_K (dC, dI) vwCl (mT kB kI kZ) s) (hP : va_P (dC, dI) vwCl (mW h0 kB kI kZ q g F) H) (hD : va_D A (mW h0 kB kI kZ q g F)) (hS : va_S A s.heap H locs) (hl : lv_has ls 2 [(0, .ref h0), (1, .int p0)])
    (K : ∀ (pc : Nat) (ls : Array Slot) (rz : Int32) (H : Heap) (locs : List Loc), some rz = some r → decode cX12_count pc = .ok (.ireturn, 1) → va_P (dC, dI) vwCl (mW h0 kB kI kZ q g F) H → va_D A (mW h0 kB kI kZ q g F) → va_S A s.heap H locs → W p l e ({ frames := 2, cells := 0, slots := 0, locals := 60 } : Room) s m args below meth c H locs 0 0 Q (F0 m pc ls [.int rz])) : W p l e ({ frames := 2, cells := 0, slots := 0, locals := 60 } : Room) s m args below meth c H locs 0 0 Q (F0 m 0 ls []) := by
  unfold f_count at hr
  refine lv_iload_n hx hb dX12_count_0 rfl (lv_at hl 1 rfl) ?_
  replace hr := jnS hr
  obtain ⟨j36, hj36, hr⟩ := hr
  have Jj36 : ∀ (t36_0 : Int32) (H : Heap) (locs : List Loc) (ls : Array Slot), j36 t36_0 = some r → va_P (dC, dI) vwCl (mW h0 kB kI kZ q g F) H → va_D A (mW h0 kB kI kZ q g F) → va_S A s.heap H locs → lv_has ls 2 [] → W p l e ({ frames := 2, cells := 0, slots := 0, locals := 60 } : Room) s m args below meth c H locs 0 0 Q (F0 m 36 ls [.int t36_0]) := by
    intro t36_0 H locs ls hr hP hD hS hl
    rw [hj36] at hr
    exact K 36 ls _ H _ hr dX12_count_36 hP hD hS
  refine lv_if_ne (tgt := 11) hx hb dX12_count_1 (by decide) (fun c1 => ?_) (fun c1 => ?_)
  · replace hr := iteF c1 hr
    refine lv_iload_n hx hb dX12_count_11 rfl (lv_at hl 1 rfl) ?_
    refine lv_iconst (v := 1) hx hb dX12_count_12 (by decide +kernel) ?_
    refine lv_icmp_ne (tgt := 23) hx hb dX12_count_13 (by decide) (fun c13 => ?_) (fun c13 => ?_)
    · replace hr := iteF c13 hr
      refine lv_iload_n hx hb dX12_count_23 rfl (lv_at hl 1 rfl) ?_
      refine lv_iconst (v := 2) hx hb dX12_count_24 (by decide +kernel) ?_
      refine lv_icmp_ne (tgt := 35) hx hb dX12_count_25 (by decide) (fun c25 => ?_) (fun c25 => ?_)
      · replace hr := iteF c25 hr
        refine lv_iconst (v := (-1)) hx hb dX12_count_35 (by decide +kernel) ?_
        exact Jj36 (-1) H _ ls hr hP hD hS (lv_sub hl [] rfl)
      · replace hr := iteT c25 hr
        refine lv_aload_n hx hb dX12_count_28 rfl (lv_at hl 0 rfl) ?_
        refine va_get (D := (dC, dI)) (ci := 12) (v := .int (g 1)) (C := RX12) (T := TX12) (N := 71) hx hb hts inX12 hown hK hP 0 rfl rfl 1 (by decide) (hts (.fieldLink RX12 152 "SpellTurnerModel" "taped" "I") im_45) (fun _ h9 => h9) rfl dX12_count_29 ?_
        refine lv_goto (tgt := 36) hx hb dX12_count_32 (by decide) ?_
        first | exact Jj36 (g 1) H _ ls hr (sP_eq (mW_cg (by repeat (first | with_reducible rfl | with_reducible refine upd_cg ?_ | refine Eq.trans ?_ (upd_id rfl))) (by repeat (first | with_reducible rfl | with_reducible refine upF_cg ?_ | refine Eq.trans ?_ (upF_id rfl)))) hP) (sD_eq (mW_cg (by repeat (first | with_reducible rfl | with_reducible refine upd_cg ?_ | refine Eq.trans ?_ (upd_id rfl))) (by repeat (first | with_reducible rfl | with_reducible refine upF_cg ?_ | refine Eq.trans ?_ (upF_id rfl)))) hD) hS (lv_sub hl [] rfl) | exact Jj36 (g 1) H _ ls hr hP hD hS (lv_sub hl [] rfl)
    · replace hr := iteT c13 hr
      refine lv_aload_n hx hb dX12_count_16 rfl (lv_at hl 0 rfl) ?_
      refine va_get (D := (dC, dI)) (ci := 12) (v := .int (g 48)) (C := RX12) (T := TX12) (N := 71) hx hb hts inX12 hown hK hP 0 rfl rfl 48 (by decide) (hts (.fieldLink RX12 312 "SpellTurnerModel" "words" "I") im_85) (fun _ h9 => h9) rfl dX12_count_17 ?_
      refine lv_goto (tgt := 36) hx hb dX12_count_20 (by decide) ?_
      first | exact Jj36 (g 48) H _ ls hr (sP_eq (mW_cg (by repeat (first | with_reducible rfl | with_reducible refine upd_cg ?_ | refine Eq.trans ?_ (upd_id rfl))) (by repeat (first | with_reducible rfl | with_reducible refine upF_cg ?_ | refine Eq.trans ?_ (upF_id rfl)))) hP) (sD_eq (mW_cg (by repeat (first | with_reducible rfl | with_reducible refine upd_cg ?_ | refine Eq.trans ?_ (upd_id rfl))) (by repeat (first | with_reducible rfl | with_reducible refine upF_cg ?_ | refine Eq.trans ?_ (upF_id rfl)))) hD) hS (lv_sub hl [] rfl) | exact Jj36 (g 48) H _ ls hr hP hD hS (lv_sub hl [] rfl)
  · replace hr := iteT c1 hr
    refine lv_aload_n hx hb dX12_count_4 rfl (lv_at hl 0 rfl) ?_
    refine va_get (D := (dC, dI)) (ci := 12) (v := .int (g 9)) (C := RX12) (T := TX12) (N := 71) hx hb hts inX12 hown hK hP 0 rfl rfl 9 (by decide) (hts (.fieldLink RX12 222 "SpellTurnerModel" "reforms" "I") im_40) (fun _ h9 => h9) rfl dX12_count_5 ?_
    refine lv_goto (tgt := 36) hx hb dX12_count_8 (by decide) ?_
    first | exact Jj36 (g 9) H _ ls hr (sP_eq (mW_cg (by repeat (first | with_reducible rfl | with_reducible refine upd_cg ?_ | refine Eq.trans ?_ (upd_id rfl))) (by repeat (first | with_reducible rfl | with_reducible refine upF_cg ?_ | refine Eq.trans ?_ (upF_id rfl)))) hP) (sD_eq (mW_cg (by repeat (first | with_reducible rfl | with_reducible refine upd_cg ?_ | refine Eq.trans ?_ (upd_id rfl))) (by repeat (first | with_reducible rfl | with_reducible refine upF_cg ?_ | refine Eq.trans ?_ (upF_id rfl)))) hD) hS (lv_sub hl [] rfl) | exact Jj36 (g 9) H _ ls hr hP hD hS (lv_sub hl [] rfl)
set_option maxHeartbeats 4000000 in
set_option maxRecDepth 100000 in
theorem m_count (l : Launch) (dC : Nat → ClassId) (dI : Nat → Nat → Nat) (sz : Nat) (h0 : Nat) (kB kI kZ : ClassId) (q : Nat → Nat) (g : Nat → Int32) (F : Nat → Nat → Int32) (p0 : Int32) (r : Int32) (hr : f_count g F p0 = some r) : Met l yX12_count vmX12_count ({ frames := 2, cells := 0, slots := 0, locals := 60 } : Room) (va_Pc [.ref h0, .int p0] (fun U => U.heap.size = sz ∧ va_P (dC, dI) vwCl (mW h0 kB kI kZ q g F) U.heap ∧ va_K (dC, dI) vwCl (mT kB kI kZ) U ∧ va_D (fun _ => True) (mW h0 kB kI kZ q g F))) (va_Qi (fun (rz : Int32) (_ : Unit) => rz = r) (fun _ t => va_P (dC, dI) vwCl (mW h0 kB kI kZ q g F) t.heap ∧ va_K (dC, dI) vwCl (mT kB kI kZ) t ∧ va_D (va_A (mW h0 kB kI kZ q g F) sz) (mW h0 kB kI kZ q g F)) (va_A (mW h0 kB kI kZ q g F) sz)) 0 0 (va_A (mW h0 kB kI kZ q g F) sz) := by
  refine Met.ofW (cc := cX12_count) (maxL := 2) (ret := (some .int)) (by decide) rfl ?_
  intro p e s m args below meth c s₁ B hml hv
  obtain ⟨rfl, hsz, hP, hK, hD0⟩ := hv
  have hx := B.exec
  have hb := B.bytes
  have hrt := B.returns
  have hts := atoms_spec (ws := vmX12_count) B.pre
  have hown : s.vm.findClass RX12 = some m.cls := findClass_of_methodNamed B.named
  subst hsz
  have hD := hD0.self (sz := s.heap.size)
  generalize hAe : va_A (mW h0 kB kI kZ q g F) s.heap.size = A at hD ⊢
  have hA : ∀ q : Nat, s.heap.size ≤ q → A q := fun q h => by rw [← hAe]; exact Or.inr h
  have hS : va_S A s.heap s.heap [] := va_S.rf
  have hl := lv_entry ([.ref h0, .int p0]) (n := 2) (Nat.le_of_ble_eq_true rfl)
  rw [lg_entry_eq]
  generalize (lg_sl ([.ref h0, .int p0]) ++ List.replicate (2 - (lg_sl ([.ref h0, .int p0])).length) Slot.unset).toArray = ls at hl ⊢
  exact bm_count p0 r hr hx hb hml hown hts hA hK hP hD hS hl (fun pc ls rz H locs he hd hP hD hS => by cases he; exact W.iret (v := r) hx hb hrt (fun t ht hW => ⟨⟨r, (), rfl, rfl, by rw [ht]; exact hP, va_K.moved hW.alike hK, hD⟩, hS.F ht⟩) hS.2.2 hd)
set_option maxHeartbeats 4000000 in
set_option maxRecDepth 100000 in
theorem bm_isName {p : Program} {l : Launch} {e : Env} {s : State} {m : MethodId} {args : Array Value} {below : List Frame} {meth : Method} {c : Code} {Q : State → Prop} {A : Nat → Prop} {dC : Nat → ClassId} {dI : Nat → Nat → Nat} {h0 : Nat} {kB kI kZ : ClassId} {q : Nat → Nat} {g : Nat → Int32} {F : Nat → Nat → Int32} {H : Heap} {locs : List Loc} {ls : Array Slot} (p0 : Int32) (p1 : Int32) (r : Int32) (hr : f_isName g F p0 p1 = some r) (hx : p.tables.exec = Jvm.exec) (hb : c.code = cX12_isName) (hml : c.maxLocals = 4) (hown : s.vm.findClass RX12 = some m.cls) (hts : ∀ w ∈ vmX12_isName, w.before args s = true) (hA : ∀ q : Nat, s.heap.size ≤ q → A q) (hK : va_K (dC, dI) vwCl (mT kB kI kZ) s) (hP : va_P (dC, dI) vwCl (mW h0 kB kI kZ q g F) H) (hD : va_D A (mW h0 kB kI kZ q g F)) (hS : va_S A s.heap H locs) (hl : lv_has ls 4 [(0, .ref h0), (1, .int p0), (2, .int p1)])
    (K : ∀ (pc : Nat) (ls : Array Slot) (rz : Int32) (H : Heap) (locs : List Loc), some rz = some r → is01 rz → decode cX12_isName pc = .ok (.ireturn, 1) → va_P (dC, dI) vwCl (mW h0 kB kI kZ q g F) H → va_D A (mW h0 kB kI kZ q g F) → va_S A s.heap H locs → W p l e ({ frames := 3, cells := 0, slots := 0, locals := 80 } : Room) s m args below meth c H locs 0 0 Q (F0 m pc ls [.int rz])) : W p l e ({ frames := 3, cells := 0, slots := 0, locals := 80 } : Room) s m args below meth c H locs 0 0 Q (F0 m 0 ls []) := by
  unfold f_isName at hr
  refine lv_iload_n hx hb dX12_isName_0 rfl (lv_at hl 1 rfl) ?_
  refine lv_istore_n (lv' := [(3, .int p0), (0, .ref h0), (1, .int p0), (2, .int p1)]) hx hb dX12_isName_1 rfl hl (by decide) rfl (fun ls hl => ?_)
  have lp2 : ∀ (n2 : Nat) (y2_3 : Int32) (H : Heap) (locs : List Loc) (ls : Array Slot), L_isName_2 F p1 n2 y2_3 = some r → va_P (dC, dI) vwCl (mW h0 kB kI kZ q g F) H → va_D A (mW h0 kB kI kZ q g F) → va_S A s.heap H locs → lv_has ls 4 [(0, .ref h0), (2, .int p1), (3, .int y2_3)] → W p l e ({ frames := 3, cells := 0, slots := 0, locals := 80 } : Room) s m args below meth c H locs 0 0 Q (F0 m 2 ls []) := by
    intro n2
    induction n2 with
    | zero => intro y2_3 H locs ls hr; exact nomatch (show none = some r from hr)
    | succ n2 ih2 =>
      intro y2_3 H locs ls hr hP hD hS hl
      replace hr : B_isName_2 F p1 (L_isName_2 F p1 n2) y2_3 = some r := hr
      unfold B_isName_2 at hr
      refine lv_iload_n hx hb dX12_isName_2 rfl (lv_at hl 2 rfl) ?_
      refine lv_iload_n hx hb dX12_isName_3 rfl (lv_at hl 1 rfl) ?_
      refine lv_icmp_ge (tgt := 27) hx hb dX12_isName_4 (by decide) (fun c4 => ?_) (fun c4 => ?_)
      · replace hr := iteT c4 hr
        refine lv_iconst (v := 0) hx hb dX12_isName_27 (by decide +kernel) ?_
        exact K 28 ls _ H _ hr (by decide) dX12_isName_28 hP hD hS
      · replace hr := iteF c4 hr
        refine lv_aload_n hx hb dX12_isName_7 rfl (lv_at hl 0 rfl) ?_
        refine va_get (D := (dC, dI)) (ci := 12) (v := .ref (q 0)) (C := RX12) (T := TX12) (N := 71) hx hb hts inX12 hown hK hP 0 rfl rfl 0 (by decide) (hts (.fieldLink RX12 7 "SpellTurnerModel" "tape" "[B") im_34) (fun _ h9 => h9) rfl dX12_isName_8 ?_
        refine lv_iload_n hx hb dX12_isName_11 rfl (lv_at hl 2 rfl) ?_
        replace hr := iteS hr
        obtain ⟨hi12, hr⟩ := hr
        refine va_bald (f := (F 0)) hx hb hK hP 1 0 rfl rfl (inbV hi12) dX12_isName_12 ?_
        replace hr := b1S hr
        obtain ⟨r13z, hc13, hr⟩ := hr
        have hFc := fr_all hD hS hA
        refine va_calli (va_runS (As := [.int ((F 0) (Int32.toNatClampNeg y2_3))]) (rest := []) ⟨hx, hb, hml, hown, hts⟩ (m_isSmall l dC dI H.size h0 kB kI kZ q g F ((F 0) (Int32.toNatClampNeg y2_3)) r13z hc13) (va_cwS 1 hts gw_X12_isSmall_183 rfl rfl rfl (by decide +kernel) ⟨Nat.le_of_ble_eq_true rfl, Nat.le_of_ble_eq_true rfl⟩) ⟨fun a U g mk q => by obtain ⟨q0, q1, qP, qK, qD⟩ := q; exact ⟨q0, q1, qP, va_K.moved (u := U) (U := U.calling g mk a) (Vm.Alike.refl U.vm) qK, qD⟩, fun U hU hW => ⟨rfl, by rw [hU], by rw [hU]; exact hP, va_K.moved hW.alike hK, hD.weaken (fun _ _ _ _ => trivial)⟩⟩ rfl rfl hl.1 rfl (lv_room (Nat.le_of_ble_eq_true rfl)) dX12_isName_13 ⟨Nat.le_of_ble_eq_true rfl, Nat.le_of_ble_eq_true rfl⟩) hS (fun q _ h => hFc q h) hFc (fun r13 u t H1 locs ht hvm hw hB hz1 hk1 hS => ?_)
        replace hw : r13 = r13z := hw
        subst hw
        obtain ⟨hP1, hK1, hD1⟩ := hB
        rw [ht] at hP1
        obtain ⟨hP, hD⟩ := jn_all (w1 := (mW h0 kB kI kZ q g F)) hFc hP1 hD1
        clear hFc hP1 hK1 hD1 hk1 hz1 ht hvm
        generalize H1 = H at hP hS ⊢
        have hP : va_P (dC, dI) vwCl (mW h0 kB kI kZ q g F) H := hP
        have hD : va_D A (mW h0 kB kI kZ q g F) := hD
        refine lv_if_ne (tgt := 21) hx hb dX12_isName_16 (by decide) (fun c16 => ?_) (fun c16 => ?_)
        · replace hr := iteF c16 hr
          refine lv_iinc (v := (y2_3 + 1)) (lv' := [(3, .int (y2_3 + 1)), (0, .ref h0), (2, .int p1)]) hx hb dX12_isName_21 hl (k := 2) rfl rfl (by decide) rfl (fun ls hl => ?_)
          refine lv_goto (tgt := 2) hx hb dX12_isName_24 (by decide) ?_
          exact ih2 (y2_3 + 1) H _ ls hr hP hD hS (lv_sub hl [1, 2, 0] rfl)
        · replace hr := iteT c16 hr
          refine lv_iconst (v := 1) hx hb dX12_isName_19 (by decide +kernel) ?_
          exact K 20 ls _ H _ hr (by decide) dX12_isName_20 hP hD hS
  exact lp2 NN p0 H _ ls hr hP hD hS (lv_sub hl [1, 3, 0] rfl)
set_option maxHeartbeats 4000000 in
set_option maxRecDepth 100000 in
theorem m_isName (l : Launch) (dC : Nat → ClassId) (dI : Nat → Nat → Nat) (sz : Nat) (h0 : Nat) (kB kI kZ : ClassId) (q : Nat → Nat) (g : Nat → Int32) (F : Nat → Nat → Int32) (p0 : Int32) (p1 : Int32) (r : Int32) (hr : f_isName g F p0 p1 = some r) : Met l yX12_isName vmX12_isName ({ frames := 3, cells := 0, slots := 0, locals := 80 } : Room) (va_Pc [.ref h0, .int p0, .int p1] (fun U => U.heap.size = sz ∧ va_P (dC, dI) vwCl (mW h0 kB kI kZ q g F) U.heap ∧ va_K (dC, dI) vwCl (mT kB kI kZ) U ∧ va_D (fun _ => True) (mW h0 kB kI kZ q g F))) (va_Qi (fun (rz : Int32) (_ : Unit) => rz = r) (fun _ t => va_P (dC, dI) vwCl (mW h0 kB kI kZ q g F) t.heap ∧ va_K (dC, dI) vwCl (mT kB kI kZ) t ∧ va_D (va_A (mW h0 kB kI kZ q g F) sz) (mW h0 kB kI kZ q g F)) (va_A (mW h0 kB kI kZ q g F) sz)) 0 0 (va_A (mW h0 kB kI kZ q g F) sz) := by
  refine Met.ofW (cc := cX12_isName) (maxL := 4) (ret := (some .boolean)) (by decide) rfl ?_
  intro p e s m args below meth c s₁ B hml hv
  obtain ⟨rfl, hsz, hP, hK, hD0⟩ := hv
  have hx := B.exec
  have hb := B.bytes
  have hrt := B.returns
  have hts := atoms_spec (ws := vmX12_isName) B.pre
  have hown : s.vm.findClass RX12 = some m.cls := findClass_of_methodNamed B.named
  subst hsz
  have hD := hD0.self (sz := s.heap.size)
  generalize hAe : va_A (mW h0 kB kI kZ q g F) s.heap.size = A at hD ⊢
  have hA : ∀ q : Nat, s.heap.size ≤ q → A q := fun q h => by rw [← hAe]; exact Or.inr h
  have hS : va_S A s.heap s.heap [] := va_S.rf
  have hl := lv_entry ([.ref h0, .int p0, .int p1]) (n := 4) (Nat.le_of_ble_eq_true rfl)
  rw [lg_entry_eq]
  generalize (lg_sl ([.ref h0, .int p0, .int p1]) ++ List.replicate (4 - (lg_sl ([.ref h0, .int p0, .int p1])).length) Slot.unset).toArray = ls at hl ⊢
  exact bm_isName p0 p1 r hr hx hb hml hown hts hA hK hP hD hS hl (fun pc ls rz H locs he hz hd hP hD hS => by cases he; exact W.zret (v := r) hx hb hrt (z_nb hz) (fun t ht hW => ⟨⟨r, (), rfl, rfl, by rw [ht]; exact hP, va_K.moved hW.alike hK, hD⟩, hS.F ht⟩) hS.2.2 hd)
set_option maxHeartbeats 4000000 in
set_option maxRecDepth 100000 in
theorem bm_quoted {p : Program} {l : Launch} {e : Env} {s : State} {m : MethodId} {args : Array Value} {below : List Frame} {meth : Method} {c : Code} {Q : State → Prop} {A : Nat → Prop} {dC : Nat → ClassId} {dI : Nat → Nat → Nat} {h0 : Nat} {kB kI kZ : ClassId} {q : Nat → Nat} {g : Nat → Int32} {F : Nat → Nat → Int32} {H : Heap} {locs : List Loc} {ls : Array Slot} (p0 : Int32) (p1 : Int32) (r : Int32) (hr : f_quoted g F p0 p1 = some r) (hx : p.tables.exec = Jvm.exec) (hb : c.code = cX12_quoted) (hml : c.maxLocals = 4) (hown : s.vm.findClass RX12 = some m.cls) (hts : ∀ w ∈ vmX12_quoted, w.before args s = true) (hA : ∀ q : Nat, s.heap.size ≤ q → A q) (hK : va_K (dC, dI) vwCl (mT kB kI kZ) s) (hP : va_P (dC, dI) vwCl (mW h0 kB kI kZ q g F) H) (hD : va_D A (mW h0 kB kI kZ q g F)) (hS : va_S A s.heap H locs) (hl : lv_has ls 4 [(0, .ref h0), (1, .int p0), (2, .int p1)])
    (K : ∀ (pc : Nat) (ls : Array Slot) (rz : Int32) (H : Heap) (locs : List Loc), some rz = some r → decode cX12_quoted pc = .ok (.ireturn, 1) → va_P (dC, dI) vwCl (mW h0 kB kI kZ q g F) H → va_D A (mW h0 kB kI kZ q g F) → va_S A s.heap H locs → W p l e ({ frames := 2, cells := 0, slots := 0, locals := 60 } : Room) s m args below meth c H locs 0 0 Q (F0 m pc ls [.int rz])) : W p l e ({ frames := 2, cells := 0, slots := 0, locals := 60 } : Room) s m args below meth c H locs 0 0 Q (F0 m 0 ls []) := by
  unfold f_quoted at hr
  refine lv_iload_n hx hb dX12_quoted_0 rfl (lv_at hl 1 rfl) ?_
  refine lv_iconst (v := 1) hx hb dX12_quoted_1 (by decide +kernel) ?_
  refine lv_iadd hx hb dX12_quoted_2 ?_
  refine lv_topi (fun x3 ex3 => ?_)
  replace hr := vlS hr x3 ex3
  clear ex3
  refine lv_istore_n (lv' := [(3, .int x3), (0, .ref h0), (1, .int p0), (2, .int p1)]) hx hb dX12_quoted_3 rfl hl (by decide) rfl (fun ls hl => ?_)
  replace hr := jnS hr
  obtain ⟨k26, hk26, hr⟩ := hr
  have Jk26 : ∀ (x26_3 : Int32) (H : Heap) (locs : List Loc) (ls : Array Slot), k26 x26_3 = some r → va_P (dC, dI) vwCl (mW h0 kB kI kZ q g F) H → va_D A (mW h0 kB kI kZ q g F) → va_S A s.heap H locs → lv_has ls 4 [(2, .int p1), (3, .int x26_3)] → W p l e ({ frames := 2, cells := 0, slots := 0, locals := 60 } : Room) s m args below meth c H locs 0 0 Q (F0 m 26 ls []) := by
    intro x26_3 H locs ls hr hP hD hS hl
    rw [hk26] at hr
    refine lv_iload_n hx hb dX12_quoted_26 rfl (lv_at hl 1 rfl) ?_
    refine lv_iload_n hx hb dX12_quoted_27 rfl (lv_at hl 0 rfl) ?_
    replace hr := jnS hr
    obtain ⟨j38, hj38, hr⟩ := hr
    have Jj38 : ∀ (t38_0 : Int32) (H : Heap) (locs : List Loc) (ls : Array Slot), j38 t38_0 = some r → va_P (dC, dI) vwCl (mW h0 kB kI kZ q g F) H → va_D A (mW h0 kB kI kZ q g F) → va_S A s.heap H locs → lv_has ls 4 [] → W p l e ({ frames := 2, cells := 0, slots := 0, locals := 60 } : Room) s m args below meth c H locs 0 0 Q (F0 m 38 ls [.int t38_0]) := by
      intro t38_0 H locs ls hr hP hD hS hl
      rw [hj38] at hr
      exact K 38 ls _ H _ hr dX12_quoted_38 hP hD hS
    refine lv_icmp_ge (tgt := 37) hx hb dX12_quoted_28 (by decide) (fun c28 => ?_) (fun c28 => ?_)
    · replace hr := iteT c28 hr
      refine lv_iload_n hx hb dX12_quoted_37 rfl (lv_at hl 0 rfl) ?_
      exact Jj38 p1 H _ ls hr hP hD hS (lv_sub hl [] rfl)
    · replace hr := iteF c28 hr
      refine lv_iload_n hx hb dX12_quoted_31 rfl (lv_at hl 1 rfl) ?_
      refine lv_iconst (v := 1) hx hb dX12_quoted_32 (by decide +kernel) ?_
      refine lv_iadd hx hb dX12_quoted_33 ?_
      refine lv_goto (tgt := 38) hx hb dX12_quoted_34 (by decide) ?_
      exact Jj38 (x26_3 + 1) H _ ls hr hP hD hS (lv_sub hl [] rfl)
  have lp4 : ∀ (n4 : Nat) (y4_3 : Int32) (H : Heap) (locs : List Loc) (ls : Array Slot), L_quoted_4 F p1 k26 n4 y4_3 = some r → va_P (dC, dI) vwCl (mW h0 kB kI kZ q g F) H → va_D A (mW h0 kB kI kZ q g F) → va_S A s.heap H locs → lv_has ls 4 [(0, .ref h0), (2, .int p1), (3, .int y4_3)] → W p l e ({ frames := 2, cells := 0, slots := 0, locals := 60 } : Room) s m args below meth c H locs 0 0 Q (F0 m 4 ls []) := by
    intro n4
    induction n4 with
    | zero => intro y4_3 H locs ls hr; exact nomatch (show none = some r from hr)
    | succ n4 ih4 =>
      intro y4_3 H locs ls hr hP hD hS hl
      replace hr : B_quoted_4 F p1 k26 (L_quoted_4 F p1 k26 n4) y4_3 = some r := hr
      unfold B_quoted_4 at hr
      refine lv_iload_n hx hb dX12_quoted_4 rfl (lv_at hl 2 rfl) ?_
      refine lv_iload_n hx hb dX12_quoted_5 rfl (lv_at hl 1 rfl) ?_
      refine lv_icmp_ge (tgt := 26) hx hb dX12_quoted_6 (by decide) (fun c6 => ?_) (fun c6 => ?_)
      · replace hr := iteT c6 hr
        exact Jk26 y4_3 H _ ls hr hP hD hS (lv_sub hl [1, 2] rfl)
      · replace hr := iteF c6 hr
        refine lv_aload_n hx hb dX12_quoted_9 rfl (lv_at hl 0 rfl) ?_
        refine va_get (D := (dC, dI)) (ci := 12) (v := .ref (q 0)) (C := RX12) (T := TX12) (N := 71) hx hb hts inX12 hown hK hP 0 rfl rfl 0 (by decide) (hts (.fieldLink RX12 7 "SpellTurnerModel" "tape" "[B") im_34) (fun _ h9 => h9) rfl dX12_quoted_10 ?_
        refine lv_iload_n hx hb dX12_quoted_13 rfl (lv_at hl 2 rfl) ?_
        replace hr := iteS hr
        obtain ⟨hi14, hr⟩ := hr
        refine va_bald (f := (F 0)) hx hb hK hP 1 0 rfl rfl (inbV hi14) dX12_quoted_14 ?_
        refine lv_bipush (v := 34) hx hb dX12_quoted_15 (by decide +kernel) ?_
        refine lv_icmp_eq (tgt := 26) hx hb dX12_quoted_17 (by decide) (fun c17 => ?_) (fun c17 => ?_)
        · replace hr := iteT c17 hr
          exact Jk26 y4_3 H _ ls hr hP hD hS (lv_sub hl [1, 2] rfl)
        · replace hr := iteF c17 hr
          refine lv_iinc (v := (y4_3 + 1)) (lv' := [(3, .int (y4_3 + 1)), (0, .ref h0), (2, .int p1)]) hx hb dX12_quoted_20 hl (k := 2) rfl rfl (by decide) rfl (fun ls hl => ?_)
          refine lv_goto (tgt := 4) hx hb dX12_quoted_23 (by decide) ?_
          exact ih4 (y4_3 + 1) H _ ls hr hP hD hS (lv_sub hl [1, 2, 0] rfl)
  exact lp4 NN x3 H _ ls hr hP hD hS (lv_sub hl [1, 3, 0] rfl)
set_option maxHeartbeats 4000000 in
set_option maxRecDepth 100000 in
theorem m_quoted (l : Launch) (dC : Nat → ClassId) (dI : Nat → Nat → Nat) (sz : Nat) (h0 : Nat) (kB kI kZ : ClassId) (q : Nat → Nat) (g : Nat → Int32) (F : Nat → Nat → Int32) (p0 : Int32) (p1 : Int32) (r : Int32) (hr : f_quoted g F p0 p1 = some r) : Met l yX12_quoted vmX12_quoted ({ frames := 2, cells := 0, slots := 0, locals := 60 } : Room) (va_Pc [.ref h0, .int p0, .int p1] (fun U => U.heap.size = sz ∧ va_P (dC, dI) vwCl (mW h0 kB kI kZ q g F) U.heap ∧ va_K (dC, dI) vwCl (mT kB kI kZ) U ∧ va_D (fun _ => True) (mW h0 kB kI kZ q g F))) (va_Qi (fun (rz : Int32) (_ : Unit) => rz = r) (fun _ t => va_P (dC, dI) vwCl (mW h0 kB kI kZ q g F) t.heap ∧ va_K (dC, dI) vwCl (mT kB kI kZ) t ∧ va_D (va_A (mW h0 kB kI kZ q g F) sz) (mW h0 kB kI kZ q g F)) (va_A (mW h0 kB kI kZ q g F) sz)) 0 0 (va_A (mW h0 kB kI kZ q g F) sz) := by
  refine Met.ofW (cc := cX12_quoted) (maxL := 4) (ret := (some .int)) (by decide) rfl ?_
  intro p e s m args below meth c s₁ B hml hv
  obtain ⟨rfl, hsz, hP, hK, hD0⟩ := hv
  have hx := B.exec
  have hb := B.bytes
  have hrt := B.returns
  have hts := atoms_spec (ws := vmX12_quoted) B.pre
  have hown : s.vm.findClass RX12 = some m.cls := findClass_of_methodNamed B.named
  subst hsz
  have hD := hD0.self (sz := s.heap.size)
  generalize hAe : va_A (mW h0 kB kI kZ q g F) s.heap.size = A at hD ⊢
  have hA : ∀ q : Nat, s.heap.size ≤ q → A q := fun q h => by rw [← hAe]; exact Or.inr h
  have hS : va_S A s.heap s.heap [] := va_S.rf
  have hl := lv_entry ([.ref h0, .int p0, .int p1]) (n := 4) (Nat.le_of_ble_eq_true rfl)
  rw [lg_entry_eq]
  generalize (lg_sl ([.ref h0, .int p0, .int p1]) ++ List.replicate (4 - (lg_sl ([.ref h0, .int p0, .int p1])).length) Slot.unset).toArray = ls at hl ⊢
  exact bm_quoted p0 p1 r hr hx hb hml hown hts hA hK hP hD hS hl (fun pc ls rz H locs he hd hP hD hS => by cases he; exact W.iret (v := r) hx hb hrt (fun t ht hW => ⟨⟨r, (), rfl, rfl, by rw [ht]; exact hP, va_K.moved hW.alike hK, hD⟩, hS.F ht⟩) hS.2.2 hd)
set_option maxHeartbeats 4000000 in
set_option maxRecDepth 100000 in
theorem bm_sameBytes_52_52 {p : Program} {l : Launch} {e : Env} {s : State} {m : MethodId} {args : Array Value} {below : List Frame} {meth : Method} {c : Code} {Q : State → Prop} {A : Nat → Prop} {dC : Nat → ClassId} {dI : Nat → Nat → Nat} {h0 : Nat} {kB kI kZ : ClassId} {q : Nat → Nat} {g : Nat → Int32} {F : Nat → Nat → Int32} {H : Heap} {locs : List Loc} {ls : Array Slot} (p1 : Int32) (p2 : Int32) (p4 : Int32) (p5 : Int32) (r : Int32) (hr : f_sameBytes (F 52) 201600 p1 p2 (F 52) 201600 p4 p5 = some r) (hx : p.tables.exec = Jvm.exec) (hb : c.code = cX12_sameBytes) (hml : c.maxLocals = 7) (hown : s.vm.findClass RX12 = some m.cls) (hts : ∀ w ∈ vmX12_sameBytes, w.before args s = true) (hA : ∀ q : Nat, s.heap.size ≤ q → A q) (hK : va_K (dC, dI) vwCl (mT kB kI kZ) s) (hP : va_P (dC, dI) vwCl (mW h0 kB kI kZ q g F) H) (hD : va_D A (mW h0 kB kI kZ q g F)) (hS : va_S A s.heap H locs) (hl : lv_has ls 7 [(0, .ref (q 52)), (1, .int p1), (2, .int p2), (3, .ref (q 52)), (4, .int p4), (5, .int p5)])
    (K : ∀ (pc : Nat) (ls : Array Slot) (rz : Int32) (H : Heap) (locs : List Loc), some rz = some r → is01 rz → decode cX12_sameBytes pc = .ok (.ireturn, 1) → va_P (dC, dI) vwCl (mW h0 kB kI kZ q g F) H → va_D A (mW h0 kB kI kZ q g F) → va_S A s.heap H locs → W p l e ({ frames := 2, cells := 0, slots := 0, locals := 60 } : Room) s m args below meth c H locs 0 0 Q (F0 m pc ls [.int rz])) : W p l e ({ frames := 2, cells := 0, slots := 0, locals := 60 } : Room) s m args below meth c H locs 0 0 Q (F0 m 0 ls []) := by
  unfold f_sameBytes at hr
  refine lv_iload_n hx hb dX12_sameBytes_0 rfl (lv_at hl 2 rfl) ?_
  refine lv_iload hx hb dX12_sameBytes_1 (lv_at hl 5 rfl) ?_
  refine lv_icmp_eq (tgt := 8) hx hb dX12_sameBytes_3 (by decide) (fun c3 => ?_) (fun c3 => ?_)
  · replace hr := iteT c3 hr
    refine lv_iconst (v := 0) hx hb dX12_sameBytes_8 (by decide +kernel) ?_
    refine lv_istore (lv' := [(6, .int 0), (0, .ref (q 52)), (1, .int p1), (2, .int p2), (3, .ref (q 52)), (4, .int p4), (5, .int p5)]) hx hb dX12_sameBytes_9 hl (by decide) rfl (fun ls hl => ?_)
    have lp11 : ∀ (n11 : Nat) (y11_6 : Int32) (H : Heap) (locs : List Loc) (ls : Array Slot), L_sameBytes_11 (F 52) 201600 p1 p2 (F 52) 201600 p4 n11 y11_6 = some r → va_P (dC, dI) vwCl (mW h0 kB kI kZ q g F) H → va_D A (mW h0 kB kI kZ q g F) → va_S A s.heap H locs → lv_has ls 7 [(0, .ref (q 52)), (1, .int p1), (2, .int p2), (3, .ref (q 52)), (4, .int p4), (6, .int y11_6)] → W p l e ({ frames := 2, cells := 0, slots := 0, locals := 60 } : Room) s m args below meth c H locs 0 0 Q (F0 m 11 ls []) := by
      intro n11
      induction n11 with
      | zero => intro y11_6 H locs ls hr; exact nomatch (show none = some r from hr)
      | succ n11 ih11 =>
        intro y11_6 H locs ls hr hP hD hS hl
        replace hr : B_sameBytes_11 (F 52) 201600 p1 p2 (F 52) 201600 p4 (L_sameBytes_11 (F 52) 201600 p1 p2 (F 52) 201600 p4 n11) y11_6 = some r := hr
        unfold B_sameBytes_11 at hr
        refine lv_iload hx hb dX12_sameBytes_11 (lv_at hl 5 rfl) ?_
        refine lv_iload_n hx hb dX12_sameBytes_13 rfl (lv_at hl 2 rfl) ?_
        refine lv_icmp_ge (tgt := 41) hx hb dX12_sameBytes_14 (by decide) (fun c14 => ?_) (fun c14 => ?_)
        · replace hr := iteT c14 hr
          refine lv_iconst (v := 1) hx hb dX12_sameBytes_41 (by decide +kernel) ?_
          exact K 42 ls _ H _ hr (by decide) dX12_sameBytes_42 hP hD hS
        · replace hr := iteF c14 hr
          refine lv_aload_n hx hb dX12_sameBytes_17 rfl (lv_at hl 0 rfl) ?_
          refine lv_iload_n hx hb dX12_sameBytes_18 rfl (lv_at hl 1 rfl) ?_
          refine lv_iload hx hb dX12_sameBytes_19 (lv_at hl 5 rfl) ?_
          refine lv_iadd hx hb dX12_sameBytes_21 ?_
          replace hr := iteS hr
          obtain ⟨hi22, hr⟩ := hr
          refine va_bald (f := (F 52)) hx hb hK hP 33 0 rfl rfl (inbV hi22) dX12_sameBytes_22 ?_
          refine lv_aload_n hx hb dX12_sameBytes_23 rfl (lv_at hl 3 rfl) ?_
          refine lv_iload hx hb dX12_sameBytes_24 (lv_at hl 4 rfl) ?_
          refine lv_iload hx hb dX12_sameBytes_26 (lv_at hl 5 rfl) ?_
          refine lv_iadd hx hb dX12_sameBytes_28 ?_
          replace hr := iteS hr
          obtain ⟨hi29, hr⟩ := hr
          refine va_bald (f := (F 52)) hx hb hK hP 33 0 rfl rfl (inbV hi29) dX12_sameBytes_29 ?_
          refine lv_icmp_eq (tgt := 35) hx hb dX12_sameBytes_30 (by decide) (fun c30 => ?_) (fun c30 => ?_)
          · replace hr := iteT c30 hr
            refine lv_iinc (v := (y11_6 + 1)) (lv' := [(6, .int (y11_6 + 1)), (0, .ref (q 52)), (1, .int p1), (2, .int p2), (3, .ref (q 52)), (4, .int p4)]) hx hb dX12_sameBytes_35 hl (k := 5) rfl rfl (by decide) rfl (fun ls hl => ?_)
            refine lv_goto (tgt := 11) hx hb dX12_sameBytes_38 (by decide) ?_
            exact ih11 (y11_6 + 1) H _ ls hr hP hD hS (lv_sub hl [1, 2, 3, 4, 5, 0] rfl)
          · replace hr := iteF c30 hr
            refine lv_iconst (v := 0) hx hb dX12_sameBytes_33 (by decide +kernel) ?_
            exact K 34 ls _ H _ hr (by decide) dX12_sameBytes_34 hP hD hS
    exact lp11 NN 0 H _ ls hr hP hD hS (lv_sub hl [1, 2, 3, 4, 5, 0] rfl)
  · replace hr := iteF c3 hr
    refine lv_iconst (v := 0) hx hb dX12_sameBytes_6 (by decide +kernel) ?_
    exact K 7 ls _ H _ hr (by decide) dX12_sameBytes_7 hP hD hS
set_option maxHeartbeats 4000000 in
set_option maxRecDepth 100000 in
theorem m_sameBytes_52_52 (l : Launch) (dC : Nat → ClassId) (dI : Nat → Nat → Nat) (sz : Nat) (h0 : Nat) (kB kI kZ : ClassId) (q : Nat → Nat) (g : Nat → Int32) (F : Nat → Nat → Int32) (p1 : Int32) (p2 : Int32) (p4 : Int32) (p5 : Int32) (r : Int32) (hr : f_sameBytes (F 52) 201600 p1 p2 (F 52) 201600 p4 p5 = some r) : Met l yX12_sameBytes vmX12_sameBytes ({ frames := 2, cells := 0, slots := 0, locals := 60 } : Room) (va_Pc [.ref (q 52), .int p1, .int p2, .ref (q 52), .int p4, .int p5] (fun U => U.heap.size = sz ∧ va_P (dC, dI) vwCl (mW h0 kB kI kZ q g F) U.heap ∧ va_K (dC, dI) vwCl (mT kB kI kZ) U ∧ va_D (fun _ => True) (mW h0 kB kI kZ q g F))) (va_Qi (fun (rz : Int32) (_ : Unit) => rz = r) (fun _ t => va_P (dC, dI) vwCl (mW h0 kB kI kZ q g F) t.heap ∧ va_K (dC, dI) vwCl (mT kB kI kZ) t ∧ va_D (va_A (mW h0 kB kI kZ q g F) sz) (mW h0 kB kI kZ q g F)) (va_A (mW h0 kB kI kZ q g F) sz)) 0 0 (va_A (mW h0 kB kI kZ q g F) sz) := by
  refine Met.ofW (cc := cX12_sameBytes) (maxL := 7) (ret := (some .boolean)) (by decide) rfl ?_
  intro p e s m args below meth c s₁ B hml hv
  obtain ⟨rfl, hsz, hP, hK, hD0⟩ := hv
  have hx := B.exec
  have hb := B.bytes
  have hrt := B.returns
  have hts := atoms_spec (ws := vmX12_sameBytes) B.pre
  have hown : s.vm.findClass RX12 = some m.cls := findClass_of_methodNamed B.named
  subst hsz
  have hD := hD0.self (sz := s.heap.size)
  generalize hAe : va_A (mW h0 kB kI kZ q g F) s.heap.size = A at hD ⊢
  have hA : ∀ q : Nat, s.heap.size ≤ q → A q := fun q h => by rw [← hAe]; exact Or.inr h
  have hS : va_S A s.heap s.heap [] := va_S.rf
  have hl := lv_entry ([.ref (q 52), .int p1, .int p2, .ref (q 52), .int p4, .int p5]) (n := 7) (Nat.le_of_ble_eq_true rfl)
  rw [lg_entry_eq]
  generalize (lg_sl ([.ref (q 52), .int p1, .int p2, .ref (q 52), .int p4, .int p5]) ++ List.replicate (7 - (lg_sl ([.ref (q 52), .int p1, .int p2, .ref (q 52), .int p4, .int p5])).length) Slot.unset).toArray = ls at hl ⊢
  exact bm_sameBytes_52_52 p1 p2 p4 p5 r hr hx hb hml hown hts hA hK hP hD hS hl (fun pc ls rz H locs he hz hd hP hD hS => by cases he; exact W.zret (v := r) hx hb hrt (z_nb hz) (fun t ht hW => ⟨⟨r, (), rfl, rfl, by rw [ht]; exact hP, va_K.moved hW.alike hK, hD⟩, hS.F ht⟩) hS.2.2 hd)
set_option maxHeartbeats 4000000 in
set_option maxRecDepth 100000 in
theorem bm_hasForm_52 {p : Program} {l : Launch} {e : Env} {s : State} {m : MethodId} {args : Array Value} {below : List Frame} {meth : Method} {c : Code} {Q : State → Prop} {A : Nat → Prop} {dC : Nat → ClassId} {dI : Nat → Nat → Nat} {h0 : Nat} {kB kI kZ : ClassId} {q : Nat → Nat} {g : Nat → Int32} {F : Nat → Nat → Int32} {H : Heap} {locs : List Loc} {ls : Array Slot} (p0 : Int32) (p1 : Int32) (p3 : Int32) (p4 : Int32) (r : Int32) (hr : f_hasForm g F p0 p1 (F 52) 201600 p3 p4 = some r) (hx : p.tables.exec = Jvm.exec) (hb : c.code = cX12_hasForm) (hml : c.maxLocals = 7) (hown : s.vm.findClass RX12 = some m.cls) (hts : ∀ w ∈ vmX12_hasForm, w.before args s = true) (hA : ∀ q : Nat, s.heap.size ≤ q → A q) (hK : va_K (dC, dI) vwCl (mT kB kI kZ) s) (hP : va_P (dC, dI) vwCl (mW h0 kB kI kZ q g F) H) (hD : va_D A (mW h0 kB kI kZ q g F)) (hS : va_S A s.heap H locs) (hl : lv_has ls 7 [(0, .ref h0), (1, .int p0), (2, .int p1), (3, .ref (q 52)), (4, .int p3), (5, .int p4)])
    (K : ∀ (pc : Nat) (ls : Array Slot) (rz : Int32) (H : Heap) (locs : List Loc), some rz = some r → is01 rz → decode cX12_hasForm pc = .ok (.ireturn, 1) → va_P (dC, dI) vwCl (mW h0 kB kI kZ q g F) H → va_D A (mW h0 kB kI kZ q g F) → va_S A s.heap H locs → W p l e ({ frames := 3, cells := 0, slots := 0, locals := 86 } : Room) s m args below meth c H locs 0 0 Q (F0 m pc ls [.int rz])) : W p l e ({ frames := 3, cells := 0, slots := 0, locals := 86 } : Room) s m args below meth c H locs 0 0 Q (F0 m 0 ls []) := by
  unfold f_hasForm at hr
  refine lv_bipush (v := 12) hx hb dX12_hasForm_0 (by decide +kernel) ?_
  refine lv_bipush (v := 7) hx hb dX12_hasForm_2 (by decide +kernel) ?_
  refine lv_iload_n hx hb dX12_hasForm_4 rfl (lv_at hl 1 rfl) ?_
  refine lv_imul hx hb dX12_hasForm_5 ?_
  refine lv_iload_n hx hb dX12_hasForm_6 rfl (lv_at hl 2 rfl) ?_
  refine lv_iadd hx hb dX12_hasForm_7 ?_
  refine lv_imul hx hb dX12_hasForm_8 ?_
  refine lv_topi (fun x9 ex9 => ?_)
  replace hr := vlS hr x9 ex9
  clear ex9
  refine lv_istore (lv' := [(6, .int x9), (0, .ref h0), (1, .int p0), (2, .int p1), (3, .ref (q 52)), (4, .int p3), (5, .int p4)]) hx hb dX12_hasForm_9 hl (by decide) rfl (fun ls hl => ?_)
  have lp11 : ∀ (n11 : Nat) (y11_6 : Int32) (H : Heap) (locs : List Loc) (ls : Array Slot), L_hasForm_11 F p0 p1 (F 52) 201600 p3 p4 n11 y11_6 = some r → va_P (dC, dI) vwCl (mW h0 kB kI kZ q g F) H → va_D A (mW h0 kB kI kZ q g F) → va_S A s.heap H locs → lv_has ls 7 [(0, .ref h0), (1, .int p0), (2, .int p1), (3, .ref (q 52)), (4, .int p3), (5, .int p4), (6, .int y11_6)] → W p l e ({ frames := 3, cells := 0, slots := 0, locals := 86 } : Room) s m args below meth c H locs 0 0 Q (F0 m 11 ls []) := by
    intro n11
    induction n11 with
    | zero => intro y11_6 H locs ls hr; exact nomatch (show none = some r from hr)
    | succ n11 ih11 =>
      intro y11_6 H locs ls hr hP hD hS hl
      replace hr : B_hasForm_11 F p0 p1 (F 52) 201600 p3 p4 (L_hasForm_11 F p0 p1 (F 52) 201600 p3 p4 n11) y11_6 = some r := hr
      unfold B_hasForm_11 at hr
      refine lv_iload hx hb dX12_hasForm_11 (lv_at hl 6 rfl) ?_
      refine lv_bipush (v := 12) hx hb dX12_hasForm_13 (by decide +kernel) ?_
      refine lv_bipush (v := 7) hx hb dX12_hasForm_15 (by decide +kernel) ?_
      refine lv_iload_n hx hb dX12_hasForm_17 rfl (lv_at hl 1 rfl) ?_
      refine lv_imul hx hb dX12_hasForm_18 ?_
      refine lv_iload_n hx hb dX12_hasForm_19 rfl (lv_at hl 2 rfl) ?_
      refine lv_iadd hx hb dX12_hasForm_20 ?_
      refine lv_imul hx hb dX12_hasForm_21 ?_
      refine lv_aload_n hx hb dX12_hasForm_22 rfl (lv_at hl 0 rfl) ?_
      refine va_get (D := (dC, dI)) (ci := 12) (v := .ref (q 54)) (C := RX12) (T := TX12) (N := 71) hx hb hts inX12 hown hK hP 0 rfl rfl 54 (by decide) (hts (.fieldLink RX12 119 "SpellTurnerModel" "formMany" "[I") im_107) (fun _ h9 => h9) rfl dX12_hasForm_23 ?_
      refine lv_bipush (v := 7) hx hb dX12_hasForm_26 (by decide +kernel) ?_
      refine lv_iload_n hx hb dX12_hasForm_28 rfl (lv_at hl 1 rfl) ?_
      refine lv_imul hx hb dX12_hasForm_29 ?_
      refine lv_iload_n hx hb dX12_hasForm_30 rfl (lv_at hl 2 rfl) ?_
      refine lv_iadd hx hb dX12_hasForm_31 ?_
      replace hr := iteS hr
      obtain ⟨hi32, hr⟩ := hr
      refine va_iald (f := (F 54)) hx hb hK hP 35 1 rfl rfl (inbV hi32) dX12_hasForm_32 ?_
      refine lv_iadd hx hb dX12_hasForm_33 ?_
      refine lv_icmp_ge (tgt := 72) hx hb dX12_hasForm_34 (by decide) (fun c34 => ?_) (fun c34 => ?_)
      · replace hr := iteT c34 hr
        refine lv_iconst (v := 0) hx hb dX12_hasForm_72 (by decide +kernel) ?_
        exact K 73 ls _ H _ hr (by decide) dX12_hasForm_73 hP hD hS
      · replace hr := iteF c34 hr
        refine lv_aload_n hx hb dX12_hasForm_37 rfl (lv_at hl 0 rfl) ?_
        refine va_get (D := (dC, dI)) (ci := 12) (v := .ref (q 52)) (C := RX12) (T := TX12) (N := 71) hx hb hts inX12 hown hK hP 0 rfl rfl 52 (by decide) (hts (.fieldLink RX12 113 "SpellTurnerModel" "formText" "[B") im_108) (fun _ h9 => h9) rfl dX12_hasForm_38 ?_
        refine lv_bipush (v := 24) hx hb dX12_hasForm_41 (by decide +kernel) ?_
        refine lv_iload hx hb dX12_hasForm_43 (lv_at hl 6 rfl) ?_
        refine lv_imul hx hb dX12_hasForm_45 ?_
        refine lv_aload_n hx hb dX12_hasForm_46 rfl (lv_at hl 0 rfl) ?_
        refine va_get (D := (dC, dI)) (ci := 12) (v := .ref (q 53)) (C := RX12) (T := TX12) (N := 71) hx hb hts inX12 hown hK hP 0 rfl rfl 53 (by decide) (hts (.fieldLink RX12 116 "SpellTurnerModel" "formSize" "[I") im_109) (fun _ h9 => h9) rfl dX12_hasForm_47 ?_
        refine lv_iload hx hb dX12_hasForm_50 (lv_at hl 6 rfl) ?_
        replace hr := iteS hr
        obtain ⟨hi52, hr⟩ := hr
        refine va_iald (f := (F 53)) hx hb hK hP 34 1 rfl rfl (inbV hi52) dX12_hasForm_52 ?_
        refine lv_aload_n hx hb dX12_hasForm_53 rfl (lv_at hl 3 rfl) ?_
        refine lv_iload hx hb dX12_hasForm_54 (lv_at hl 4 rfl) ?_
        refine lv_iload hx hb dX12_hasForm_56 (lv_at hl 5 rfl) ?_
        replace hr := b1S hr
        obtain ⟨r58z, hc58, hr⟩ := hr
        have hFc := fr_all hD hS hA
        refine va_calli (va_runS (As := [.ref (q 52), .int (24 * y11_6), .int ((F 53) (Int32.toNatClampNeg y11_6)), .ref (q 52), .int p3, .int p4]) (rest := []) ⟨hx, hb, hml, hown, hts⟩ (m_sameBytes_52_52 l dC dI H.size h0 kB kI kZ q g F (24 * y11_6) ((F 53) (Int32.toNatClampNeg y11_6)) p3 p4 r58z hc58) (va_cwS 6 hts gw_X12_sameBytes_273 rfl rfl rfl (by decide +kernel) ⟨Nat.le_of_ble_eq_true rfl, Nat.le_of_ble_eq_true rfl⟩) ⟨fun a U g mk q => by obtain ⟨q0, q1, qP, qK, qD⟩ := q; exact ⟨q0, q1, qP, va_K.moved (u := U) (U := U.calling g mk a) (Vm.Alike.refl U.vm) qK, qD⟩, fun U hU hW => ⟨rfl, by rw [hU], by rw [hU]; exact hP, va_K.moved hW.alike hK, hD.weaken (fun _ _ _ _ => trivial)⟩⟩ rfl rfl hl.1 rfl (lv_room (Nat.le_of_ble_eq_true rfl)) dX12_hasForm_58 ⟨Nat.le_of_ble_eq_true rfl, Nat.le_of_ble_eq_true rfl⟩) hS (fun q _ h => hFc q h) hFc (fun r58 u t H1 locs ht hvm hw hB hz1 hk1 hS => ?_)
        replace hw : r58 = r58z := hw
        subst hw
        obtain ⟨hP1, hK1, hD1⟩ := hB
        rw [ht] at hP1
        obtain ⟨hP, hD⟩ := jn_all (w1 := (mW h0 kB kI kZ q g F)) hFc hP1 hD1
        clear hFc hP1 hK1 hD1 hk1 hz1 ht hvm
        generalize H1 = H at hP hS ⊢
        have hP : va_P (dC, dI) vwCl (mW h0 kB kI kZ q g F) H := hP
        have hD : va_D A (mW h0 kB kI kZ q g F) := hD
        refine lv_if_eq (tgt := 66) hx hb dX12_hasForm_61 (by decide) (fun c61 => ?_) (fun c61 => ?_)
        · replace hr := iteT c61 hr
          refine lv_iinc (v := (y11_6 + 1)) (lv' := [(6, .int (y11_6 + 1)), (0, .ref h0), (1, .int p0), (2, .int p1), (3, .ref (q 52)), (4, .int p3), (5, .int p4)]) hx hb dX12_hasForm_66 hl (k := 6) rfl rfl (by decide) rfl (fun ls hl => ?_)
          refine lv_goto (tgt := 11) hx hb dX12_hasForm_69 (by decide) ?_
          exact ih11 (y11_6 + 1) H _ ls hr hP hD hS (lv_sub hl [1, 2, 3, 4, 5, 6, 0] rfl)
        · replace hr := iteF c61 hr
          refine lv_iconst (v := 1) hx hb dX12_hasForm_64 (by decide +kernel) ?_
          exact K 65 ls _ H _ hr (by decide) dX12_hasForm_65 hP hD hS
  exact lp11 NN x9 H _ ls hr hP hD hS (lv_sub hl [1, 2, 3, 4, 5, 6, 0] rfl)
set_option maxHeartbeats 4000000 in
set_option maxRecDepth 100000 in
theorem m_hasForm_52 (l : Launch) (dC : Nat → ClassId) (dI : Nat → Nat → Nat) (sz : Nat) (h0 : Nat) (kB kI kZ : ClassId) (q : Nat → Nat) (g : Nat → Int32) (F : Nat → Nat → Int32) (p0 : Int32) (p1 : Int32) (p3 : Int32) (p4 : Int32) (r : Int32) (hr : f_hasForm g F p0 p1 (F 52) 201600 p3 p4 = some r) : Met l yX12_hasForm vmX12_hasForm ({ frames := 3, cells := 0, slots := 0, locals := 86 } : Room) (va_Pc [.ref h0, .int p0, .int p1, .ref (q 52), .int p3, .int p4] (fun U => U.heap.size = sz ∧ va_P (dC, dI) vwCl (mW h0 kB kI kZ q g F) U.heap ∧ va_K (dC, dI) vwCl (mT kB kI kZ) U ∧ va_D (fun _ => True) (mW h0 kB kI kZ q g F))) (va_Qi (fun (rz : Int32) (_ : Unit) => rz = r) (fun _ t => va_P (dC, dI) vwCl (mW h0 kB kI kZ q g F) t.heap ∧ va_K (dC, dI) vwCl (mT kB kI kZ) t ∧ va_D (va_A (mW h0 kB kI kZ q g F) sz) (mW h0 kB kI kZ q g F)) (va_A (mW h0 kB kI kZ q g F) sz)) 0 0 (va_A (mW h0 kB kI kZ q g F) sz) := by
  refine Met.ofW (cc := cX12_hasForm) (maxL := 7) (ret := (some .boolean)) (by decide) rfl ?_
  intro p e s m args below meth c s₁ B hml hv
  obtain ⟨rfl, hsz, hP, hK, hD0⟩ := hv
  have hx := B.exec
  have hb := B.bytes
  have hrt := B.returns
  have hts := atoms_spec (ws := vmX12_hasForm) B.pre
  have hown : s.vm.findClass RX12 = some m.cls := findClass_of_methodNamed B.named
  subst hsz
  have hD := hD0.self (sz := s.heap.size)
  generalize hAe : va_A (mW h0 kB kI kZ q g F) s.heap.size = A at hD ⊢
  have hA : ∀ q : Nat, s.heap.size ≤ q → A q := fun q h => by rw [← hAe]; exact Or.inr h
  have hS : va_S A s.heap s.heap [] := va_S.rf
  have hl := lv_entry ([.ref h0, .int p0, .int p1, .ref (q 52), .int p3, .int p4]) (n := 7) (Nat.le_of_ble_eq_true rfl)
  rw [lg_entry_eq]
  generalize (lg_sl ([.ref h0, .int p0, .int p1, .ref (q 52), .int p3, .int p4]) ++ List.replicate (7 - (lg_sl ([.ref h0, .int p0, .int p1, .ref (q 52), .int p3, .int p4])).length) Slot.unset).toArray = ls at hl ⊢
  exact bm_hasForm_52 p0 p1 p3 p4 r hr hx hb hml hown hts hA hK hP hD hS hl (fun pc ls rz H locs he hz hd hP hD hS => by cases he; exact W.zret (v := r) hx hb hrt (z_nb hz) (fun t ht hW => ⟨⟨r, (), rfl, rfl, by rw [ht]; exact hP, va_K.moved hW.alike hK, hD⟩, hS.F ht⟩) hS.2.2 hd)
set_option maxHeartbeats 4000000 in
set_option maxRecDepth 100000 in
theorem bm_collide {p : Program} {l : Launch} {e : Env} {s : State} {m : MethodId} {args : Array Value} {below : List Frame} {meth : Method} {c : Code} {Q : State → Prop} {A : Nat → Prop} {dC : Nat → ClassId} {dI : Nat → Nat → Nat} {h0 : Nat} {kB kI kZ : ClassId} {q : Nat → Nat} {g : Nat → Int32} {F : Nat → Nat → Int32} {H : Heap} {locs : List Loc} {ls : Array Slot} (p0 : Int32) (p1 : Int32) (p2 : Int32) (r : Int32) (hr : f_collide g F p0 p1 p2 = some r) (hx : p.tables.exec = Jvm.exec) (hb : c.code = cX12_collide) (hml : c.maxLocals = 5) (hown : s.vm.findClass RX12 = some m.cls) (hts : ∀ w ∈ vmX12_collide, w.before args s = true) (hA : ∀ q : Nat, s.heap.size ≤ q → A q) (hK : va_K (dC, dI) vwCl (mT kB kI kZ) s) (hP : va_P (dC, dI) vwCl (mW h0 kB kI kZ q g F) H) (hD : va_D A (mW h0 kB kI kZ q g F)) (hS : va_S A s.heap H locs) (hl : lv_has ls 5 [(0, .ref h0), (1, .int p0), (2, .int p1), (3, .int p2)])
    (K : ∀ (pc : Nat) (ls : Array Slot) (rz : Int32) (H : Heap) (locs : List Loc), some rz = some r → is01 rz → decode cX12_collide pc = .ok (.ireturn, 1) → va_P (dC, dI) vwCl (mW h0 kB kI kZ q g F) H → va_D A (mW h0 kB kI kZ q g F) → va_S A s.heap H locs → W p l e ({ frames := 4, cells := 0, slots := 0, locals := 112 } : Room) s m args below meth c H locs 0 0 Q (F0 m pc ls [.int rz])) : W p l e ({ frames := 4, cells := 0, slots := 0, locals := 112 } : Room) s m args below meth c H locs 0 0 Q (F0 m 0 ls []) := by
  unfold f_collide at hr
  refine lv_bipush (v := 12) hx hb dX12_collide_0 (by decide +kernel) ?_
  refine lv_bipush (v := 7) hx hb dX12_collide_2 (by decide +kernel) ?_
  refine lv_iload_n hx hb dX12_collide_4 rfl (lv_at hl 1 rfl) ?_
  refine lv_imul hx hb dX12_collide_5 ?_
  refine lv_iload_n hx hb dX12_collide_6 rfl (lv_at hl 3 rfl) ?_
  refine lv_iadd hx hb dX12_collide_7 ?_
  refine lv_imul hx hb dX12_collide_8 ?_
  refine lv_topi (fun x9 ex9 => ?_)
  replace hr := vlS hr x9 ex9
  clear ex9
  refine lv_istore (lv' := [(4, .int x9), (0, .ref h0), (1, .int p0), (2, .int p1), (3, .int p2)]) hx hb dX12_collide_9 hl (by decide) rfl (fun ls hl => ?_)
  have lp11 : ∀ (n11 : Nat) (y11_4 : Int32) (H : Heap) (locs : List Loc) (ls : Array Slot), L_collide_11 g F p0 p1 p2 n11 y11_4 = some r → va_P (dC, dI) vwCl (mW h0 kB kI kZ q g F) H → va_D A (mW h0 kB kI kZ q g F) → va_S A s.heap H locs → lv_has ls 5 [(0, .ref h0), (1, .int p0), (2, .int p1), (3, .int p2), (4, .int y11_4)] → W p l e ({ frames := 4, cells := 0, slots := 0, locals := 112 } : Room) s m args below meth c H locs 0 0 Q (F0 m 11 ls []) := by
    intro n11
    induction n11 with
    | zero => intro y11_4 H locs ls hr; exact nomatch (show none = some r from hr)
    | succ n11 ih11 =>
      intro y11_4 H locs ls hr hP hD hS hl
      replace hr : B_collide_11 g F p0 p1 p2 (L_collide_11 g F p0 p1 p2 n11) y11_4 = some r := hr
      unfold B_collide_11 at hr
      refine lv_iload hx hb dX12_collide_11 (lv_at hl 4 rfl) ?_
      refine lv_bipush (v := 12) hx hb dX12_collide_13 (by decide +kernel) ?_
      refine lv_bipush (v := 7) hx hb dX12_collide_15 (by decide +kernel) ?_
      refine lv_iload_n hx hb dX12_collide_17 rfl (lv_at hl 1 rfl) ?_
      refine lv_imul hx hb dX12_collide_18 ?_
      refine lv_iload_n hx hb dX12_collide_19 rfl (lv_at hl 3 rfl) ?_
      refine lv_iadd hx hb dX12_collide_20 ?_
      refine lv_imul hx hb dX12_collide_21 ?_
      refine lv_aload_n hx hb dX12_collide_22 rfl (lv_at hl 0 rfl) ?_
      refine va_get (D := (dC, dI)) (ci := 12) (v := .ref (q 54)) (C := RX12) (T := TX12) (N := 71) hx hb hts inX12 hown hK hP 0 rfl rfl 54 (by decide) (hts (.fieldLink RX12 119 "SpellTurnerModel" "formMany" "[I") im_107) (fun _ h9 => h9) rfl dX12_collide_23 ?_
      refine lv_bipush (v := 7) hx hb dX12_collide_26 (by decide +kernel) ?_
      refine lv_iload_n hx hb dX12_collide_28 rfl (lv_at hl 1 rfl) ?_
      refine lv_imul hx hb dX12_collide_29 ?_
      refine lv_iload_n hx hb dX12_collide_30 rfl (lv_at hl 3 rfl) ?_
      refine lv_iadd hx hb dX12_collide_31 ?_
      replace hr := iteS hr
      obtain ⟨hi32, hr⟩ := hr
      refine va_iald (f := (F 54)) hx hb hK hP 35 1 rfl rfl (inbV hi32) dX12_collide_32 ?_
      refine lv_iadd hx hb dX12_collide_33 ?_
      refine lv_icmp_ge (tgt := 70) hx hb dX12_collide_34 (by decide) (fun c34 => ?_) (fun c34 => ?_)
      · replace hr := iteT c34 hr
        refine lv_iconst (v := 0) hx hb dX12_collide_70 (by decide +kernel) ?_
        exact K 71 ls _ H _ hr (by decide) dX12_collide_71 hP hD hS
      · replace hr := iteF c34 hr
        refine lv_aload_n hx hb dX12_collide_37 rfl (lv_at hl 0 rfl) ?_
        refine lv_iload_n hx hb dX12_collide_38 rfl (lv_at hl 2 rfl) ?_
        refine lv_iload_n hx hb dX12_collide_39 rfl (lv_at hl 3 rfl) ?_
        refine lv_aload_n hx hb dX12_collide_40 rfl (lv_at hl 0 rfl) ?_
        refine va_get (D := (dC, dI)) (ci := 12) (v := .ref (q 52)) (C := RX12) (T := TX12) (N := 71) hx hb hts inX12 hown hK hP 0 rfl rfl 52 (by decide) (hts (.fieldLink RX12 113 "SpellTurnerModel" "formText" "[B") im_108) (fun _ h9 => h9) rfl dX12_collide_41 ?_
        refine lv_bipush (v := 24) hx hb dX12_collide_44 (by decide +kernel) ?_
        refine lv_iload hx hb dX12_collide_46 (lv_at hl 4 rfl) ?_
        refine lv_imul hx hb dX12_collide_48 ?_
        refine lv_aload_n hx hb dX12_collide_49 rfl (lv_at hl 0 rfl) ?_
        refine va_get (D := (dC, dI)) (ci := 12) (v := .ref (q 53)) (C := RX12) (T := TX12) (N := 71) hx hb hts inX12 hown hK hP 0 rfl rfl 53 (by decide) (hts (.fieldLink RX12 116 "SpellTurnerModel" "formSize" "[I") im_109) (fun _ h9 => h9) rfl dX12_collide_50 ?_
        refine lv_iload hx hb dX12_collide_53 (lv_at hl 4 rfl) ?_
        replace hr := iteS hr
        obtain ⟨hi55, hr⟩ := hr
        refine va_iald (f := (F 53)) hx hb hK hP 34 1 rfl rfl (inbV hi55) dX12_collide_55 ?_
        replace hr := b1S hr
        obtain ⟨r56z, hc56, hr⟩ := hr
        have hFc := fr_all hD hS hA
        refine va_calli (va_runV (As := [.int p1, .int p2, .ref (q 52), .int (24 * y11_4), .int ((F 53) (Int32.toNatClampNeg y11_4))]) (rest := []) ⟨hx, hb, hml, hown, hts⟩ (m_hasForm_52 l dC dI H.size h0 kB kI kZ q g F p1 p2 (24 * y11_4) ((F 53) (Int32.toNatClampNeg y11_4)) r56z hc56) (cwV 5 hts gw_X12_hasForm_321 rfl rfl rfl (by decide +kernel) ⟨Nat.le_of_ble_eq_true rfl, Nat.le_of_ble_eq_true rfl⟩) ⟨fun a U g mk q => by obtain ⟨q0, q1, qP, qK, qD⟩ := q; exact ⟨q0, q1, qP, va_K.moved (u := U) (U := U.calling g mk a) (Vm.Alike.refl U.vm) qK, qD⟩, va_recv hK hP (ci := 12) (q0 := 0) rfl rfl, fun U hU hW => ⟨rfl, by rw [hU], by rw [hU]; exact hP, va_K.moved hW.alike hK, hD.weaken (fun _ _ _ _ => trivial)⟩⟩ rfl rfl hl.1 rfl (lv_room (Nat.le_of_ble_eq_true rfl)) dX12_collide_56 ⟨Nat.le_of_ble_eq_true rfl, Nat.le_of_ble_eq_true rfl⟩) hS (fun q _ h => hFc q h) hFc (fun r56 u t H1 locs ht hvm hw hB hz1 hk1 hS => ?_)
        replace hw : r56 = r56z := hw
        subst hw
        obtain ⟨hP1, hK1, hD1⟩ := hB
        rw [ht] at hP1
        obtain ⟨hP, hD⟩ := jn_all (w1 := (mW h0 kB kI kZ q g F)) hFc hP1 hD1
        clear hFc hP1 hK1 hD1 hk1 hz1 ht hvm
        generalize H1 = H at hP hS ⊢
        have hP : va_P (dC, dI) vwCl (mW h0 kB kI kZ q g F) H := hP
        have hD : va_D A (mW h0 kB kI kZ q g F) := hD
        refine lv_if_eq (tgt := 64) hx hb dX12_collide_59 (by decide) (fun c59 => ?_) (fun c59 => ?_)
        · replace hr := iteT c59 hr
          refine lv_iinc (v := (y11_4 + 1)) (lv' := [(4, .int (y11_4 + 1)), (0, .ref h0), (1, .int p0), (2, .int p1), (3, .int p2)]) hx hb dX12_collide_64 hl (k := 4) rfl rfl (by decide) rfl (fun ls hl => ?_)
          refine lv_goto (tgt := 11) hx hb dX12_collide_67 (by decide) ?_
          exact ih11 (y11_4 + 1) H _ ls hr hP hD hS (lv_sub hl [1, 2, 3, 4, 0] rfl)
        · replace hr := iteF c59 hr
          refine lv_iconst (v := 1) hx hb dX12_collide_62 (by decide +kernel) ?_
          exact K 63 ls _ H _ hr (by decide) dX12_collide_63 hP hD hS
  exact lp11 NN x9 H _ ls hr hP hD hS (lv_sub hl [1, 2, 3, 4, 0] rfl)
set_option maxHeartbeats 4000000 in
set_option maxRecDepth 100000 in
theorem m_collide (l : Launch) (dC : Nat → ClassId) (dI : Nat → Nat → Nat) (sz : Nat) (h0 : Nat) (kB kI kZ : ClassId) (q : Nat → Nat) (g : Nat → Int32) (F : Nat → Nat → Int32) (p0 : Int32) (p1 : Int32) (p2 : Int32) (r : Int32) (hr : f_collide g F p0 p1 p2 = some r) : Met l yX12_collide vmX12_collide ({ frames := 4, cells := 0, slots := 0, locals := 112 } : Room) (va_Pc [.ref h0, .int p0, .int p1, .int p2] (fun U => U.heap.size = sz ∧ va_P (dC, dI) vwCl (mW h0 kB kI kZ q g F) U.heap ∧ va_K (dC, dI) vwCl (mT kB kI kZ) U ∧ va_D (fun _ => True) (mW h0 kB kI kZ q g F))) (va_Qi (fun (rz : Int32) (_ : Unit) => rz = r) (fun _ t => va_P (dC, dI) vwCl (mW h0 kB kI kZ q g F) t.heap ∧ va_K (dC, dI) vwCl (mT kB kI kZ) t ∧ va_D (va_A (mW h0 kB kI kZ q g F) sz) (mW h0 kB kI kZ q g F)) (va_A (mW h0 kB kI kZ q g F) sz)) 0 0 (va_A (mW h0 kB kI kZ q g F) sz) := by
  refine Met.ofW (cc := cX12_collide) (maxL := 5) (ret := (some .boolean)) (by decide) rfl ?_
  intro p e s m args below meth c s₁ B hml hv
  obtain ⟨rfl, hsz, hP, hK, hD0⟩ := hv
  have hx := B.exec
  have hb := B.bytes
  have hrt := B.returns
  have hts := atoms_spec (ws := vmX12_collide) B.pre
  have hown : s.vm.findClass RX12 = some m.cls := findClass_of_methodNamed B.named
  subst hsz
  have hD := hD0.self (sz := s.heap.size)
  generalize hAe : va_A (mW h0 kB kI kZ q g F) s.heap.size = A at hD ⊢
  have hA : ∀ q : Nat, s.heap.size ≤ q → A q := fun q h => by rw [← hAe]; exact Or.inr h
  have hS : va_S A s.heap s.heap [] := va_S.rf
  have hl := lv_entry ([.ref h0, .int p0, .int p1, .int p2]) (n := 5) (Nat.le_of_ble_eq_true rfl)
  rw [lg_entry_eq]
  generalize (lg_sl ([.ref h0, .int p0, .int p1, .int p2]) ++ List.replicate (5 - (lg_sl ([.ref h0, .int p0, .int p1, .int p2])).length) Slot.unset).toArray = ls at hl ⊢
  exact bm_collide p0 p1 p2 r hr hx hb hml hown hts hA hK hP hD hS hl (fun pc ls rz H locs he hz hd hP hD hS => by cases he; exact W.zret (v := r) hx hb hrt (z_nb hz) (fun t ht hW => ⟨⟨r, (), rfl, rfl, by rw [ht]; exact hP, va_K.moved hW.alike hK, hD⟩, hS.F ht⟩) hS.2.2 hd)
set_option maxHeartbeats 4000000 in
set_option maxRecDepth 100000 in
theorem bm_rhyme_52_52 {p : Program} {l : Launch} {e : Env} {s : State} {m : MethodId} {args : Array Value} {below : List Frame} {meth : Method} {c : Code} {Q : State → Prop} {A : Nat → Prop} {dC : Nat → ClassId} {dI : Nat → Nat → Nat} {h0 : Nat} {kB kI kZ : ClassId} {q : Nat → Nat} {g : Nat → Int32} {F : Nat → Nat → Int32} {H : Heap} {locs : List Loc} {ls : Array Slot} (p1 : Int32) (p2 : Int32) (p4 : Int32) (p5 : Int32) (r : Int32) (hr : f_rhyme (F 52) 201600 p1 p2 (F 52) 201600 p4 p5 = some r) (hx : p.tables.exec = Jvm.exec) (hb : c.code = cX12_rhyme) (hml : c.maxLocals = 6) (hown : s.vm.findClass RX12 = some m.cls) (hts : ∀ w ∈ vmX12_rhyme, w.before args s = true) (hA : ∀ q : Nat, s.heap.size ≤ q → A q) (hK : va_K (dC, dI) vwCl (mT kB kI kZ) s) (hP : va_P (dC, dI) vwCl (mW h0 kB kI kZ q g F) H) (hD : va_D A (mW h0 kB kI kZ q g F)) (hS : va_S A s.heap H locs) (hl : lv_has ls 6 [(0, .ref (q 52)), (1, .int p1), (2, .int p2), (3, .ref (q 52)), (4, .int p4), (5, .int p5)])
    (K : ∀ (pc : Nat) (ls : Array Slot) (rz : Int32) (H : Heap) (locs : List Loc), some rz = some r → is01 rz → decode cX12_rhyme pc = .ok (.ireturn, 1) → va_P (dC, dI) vwCl (mW h0 kB kI kZ q g F) H → va_D A (mW h0 kB kI kZ q g F) → va_S A s.heap H locs → W p l e ({ frames := 3, cells := 0, slots := 0, locals := 86 } : Room) s m args below meth c H locs 0 0 Q (F0 m pc ls [.int rz])) : W p l e ({ frames := 3, cells := 0, slots := 0, locals := 86 } : Room) s m args below meth c H locs 0 0 Q (F0 m 0 ls []) := by
  unfold f_rhyme at hr
  refine lv_iload_n hx hb dX12_rhyme_0 rfl (lv_at hl 2 rfl) ?_
  refine lv_iconst (v := 2) hx hb dX12_rhyme_1 (by decide +kernel) ?_
  replace hr := jnS hr
  obtain ⟨j38, hj38, hr⟩ := hr
  have Jj38 : ∀ (t38_0 : Int32) (H : Heap) (locs : List Loc) (ls : Array Slot), j38 t38_0 = some r → va_P (dC, dI) vwCl (mW h0 kB kI kZ q g F) H → va_D A (mW h0 kB kI kZ q g F) → va_S A s.heap H locs → lv_has ls 6 [] → W p l e ({ frames := 3, cells := 0, slots := 0, locals := 86 } : Room) s m args below meth c H locs 0 0 Q (F0 m 38 ls [.int t38_0]) := by
    intro t38_0 H locs ls hr hP hD hS hl
    rw [hj38] at hr
    replace hr := iteS hr
    obtain ⟨hz38, hr⟩ := hr
    exact K 38 ls _ H _ hr hz38 dX12_rhyme_38 hP hD hS
  replace hr := jnS hr
  obtain ⟨j37, hj37, hr⟩ := hr
  have Jj37 : ∀ (H : Heap) (locs : List Loc) (ls : Array Slot), j37 () = some r → va_P (dC, dI) vwCl (mW h0 kB kI kZ q g F) H → va_D A (mW h0 kB kI kZ q g F) → va_S A s.heap H locs → lv_has ls 6 [] → W p l e ({ frames := 3, cells := 0, slots := 0, locals := 86 } : Room) s m args below meth c H locs 0 0 Q (F0 m 37 ls []) := by
    intro H locs ls hr hP hD hS hl
    rw [hj37] at hr
    refine lv_iconst (v := 0) hx hb dX12_rhyme_37 (by decide +kernel) ?_
    exact Jj38 0 H _ ls hr hP hD hS (lv_sub hl [] rfl)
  refine lv_icmp_le (tgt := 37) hx hb dX12_rhyme_2 (by decide) (fun c2 => ?_) (fun c2 => ?_)
  · replace hr := iteT c2 hr
    exact Jj37 H _ ls hr hP hD hS (lv_sub hl [] rfl)
  · replace hr := iteF c2 hr
    refine lv_iload hx hb dX12_rhyme_5 (lv_at hl 5 rfl) ?_
    refine lv_iconst (v := 2) hx hb dX12_rhyme_7 (by decide +kernel) ?_
    refine lv_icmp_le (tgt := 37) hx hb dX12_rhyme_8 (by decide) (fun c8 => ?_) (fun c8 => ?_)
    · replace hr := iteT c8 hr
      exact Jj37 H _ ls hr hP hD hS (lv_sub hl [] rfl)
    · replace hr := iteF c8 hr
      refine lv_aload_n hx hb dX12_rhyme_11 rfl (lv_at hl 0 rfl) ?_
      refine lv_iload_n hx hb dX12_rhyme_12 rfl (lv_at hl 1 rfl) ?_
      refine lv_iload_n hx hb dX12_rhyme_13 rfl (lv_at hl 2 rfl) ?_
      refine lv_iadd hx hb dX12_rhyme_14 ?_
      refine lv_iconst (v := 3) hx hb dX12_rhyme_15 (by decide +kernel) ?_
      refine lv_isub hx hb dX12_rhyme_16 ?_
      refine lv_iconst (v := 3) hx hb dX12_rhyme_17 (by decide +kernel) ?_
      refine lv_aload_n hx hb dX12_rhyme_18 rfl (lv_at hl 3 rfl) ?_
      refine lv_iload hx hb dX12_rhyme_19 (lv_at hl 4 rfl) ?_
      refine lv_iload hx hb dX12_rhyme_21 (lv_at hl 5 rfl) ?_
      refine lv_iadd hx hb dX12_rhyme_23 ?_
      refine lv_iconst (v := 3) hx hb dX12_rhyme_24 (by decide +kernel) ?_
      refine lv_isub hx hb dX12_rhyme_25 ?_
      refine lv_iconst (v := 3) hx hb dX12_rhyme_26 (by decide +kernel) ?_
      replace hr := b1S hr
      obtain ⟨r27z, hc27, hr⟩ := hr
      have hFc := fr_all hD hS hA
      refine va_calli (va_runS (As := [.ref (q 52), .int ((p1 + p2) - 3), .int 3, .ref (q 52), .int ((p4 + p5) - 3), .int 3]) (rest := []) ⟨hx, hb, hml, hown, hts⟩ (m_sameBytes_52_52 l dC dI H.size h0 kB kI kZ q g F ((p1 + p2) - 3) 3 ((p4 + p5) - 3) 3 r27z hc27) (va_cwS 6 hts gw_X12_sameBytes_273 rfl rfl rfl (by decide +kernel) ⟨Nat.le_of_ble_eq_true rfl, Nat.le_of_ble_eq_true rfl⟩) ⟨fun a U g mk q => by obtain ⟨q0, q1, qP, qK, qD⟩ := q; exact ⟨q0, q1, qP, va_K.moved (u := U) (U := U.calling g mk a) (Vm.Alike.refl U.vm) qK, qD⟩, fun U hU hW => ⟨rfl, by rw [hU], by rw [hU]; exact hP, va_K.moved hW.alike hK, hD.weaken (fun _ _ _ _ => trivial)⟩⟩ rfl rfl hl.1 rfl (lv_room (Nat.le_of_ble_eq_true rfl)) dX12_rhyme_27 ⟨Nat.le_of_ble_eq_true rfl, Nat.le_of_ble_eq_true rfl⟩) hS (fun q _ h => hFc q h) hFc (fun r27 u t H1 locs ht hvm hw hB hz1 hk1 hS => ?_)
      replace hw : r27 = r27z := hw
      subst hw
      obtain ⟨hP1, hK1, hD1⟩ := hB
      rw [ht] at hP1
      obtain ⟨hP, hD⟩ := jn_all (w1 := (mW h0 kB kI kZ q g F)) hFc hP1 hD1
      clear hFc hP1 hK1 hD1 hk1 hz1 ht hvm
      generalize H1 = H at hP hS ⊢
      have hP : va_P (dC, dI) vwCl (mW h0 kB kI kZ q g F) H := hP
      have hD : va_D A (mW h0 kB kI kZ q g F) := hD
      refine lv_if_eq (tgt := 37) hx hb dX12_rhyme_30 (by decide) (fun c30 => ?_) (fun c30 => ?_)
      · replace hr := iteT c30 hr
        exact Jj37 H _ ls hr hP hD hS (lv_sub hl [] rfl)
      · replace hr := iteF c30 hr
        refine lv_iconst (v := 1) hx hb dX12_rhyme_33 (by decide +kernel) ?_
        refine lv_goto (tgt := 38) hx hb dX12_rhyme_34 (by decide) ?_
        exact Jj38 1 H _ ls hr hP hD hS (lv_sub hl [] rfl)
set_option maxHeartbeats 4000000 in
set_option maxRecDepth 100000 in
theorem m_rhyme_52_52 (l : Launch) (dC : Nat → ClassId) (dI : Nat → Nat → Nat) (sz : Nat) (h0 : Nat) (kB kI kZ : ClassId) (q : Nat → Nat) (g : Nat → Int32) (F : Nat → Nat → Int32) (p1 : Int32) (p2 : Int32) (p4 : Int32) (p5 : Int32) (r : Int32) (hr : f_rhyme (F 52) 201600 p1 p2 (F 52) 201600 p4 p5 = some r) : Met l yX12_rhyme vmX12_rhyme ({ frames := 3, cells := 0, slots := 0, locals := 86 } : Room) (va_Pc [.ref (q 52), .int p1, .int p2, .ref (q 52), .int p4, .int p5] (fun U => U.heap.size = sz ∧ va_P (dC, dI) vwCl (mW h0 kB kI kZ q g F) U.heap ∧ va_K (dC, dI) vwCl (mT kB kI kZ) U ∧ va_D (fun _ => True) (mW h0 kB kI kZ q g F))) (va_Qi (fun (rz : Int32) (_ : Unit) => rz = r) (fun _ t => va_P (dC, dI) vwCl (mW h0 kB kI kZ q g F) t.heap ∧ va_K (dC, dI) vwCl (mT kB kI kZ) t ∧ va_D (va_A (mW h0 kB kI kZ q g F) sz) (mW h0 kB kI kZ q g F)) (va_A (mW h0 kB kI kZ q g F) sz)) 0 0 (va_A (mW h0 kB kI kZ q g F) sz) := by
  refine Met.ofW (cc := cX12_rhyme) (maxL := 6) (ret := (some .boolean)) (by decide) rfl ?_
  intro p e s m args below meth c s₁ B hml hv
  obtain ⟨rfl, hsz, hP, hK, hD0⟩ := hv
  have hx := B.exec
  have hb := B.bytes
  have hrt := B.returns
  have hts := atoms_spec (ws := vmX12_rhyme) B.pre
  have hown : s.vm.findClass RX12 = some m.cls := findClass_of_methodNamed B.named
  subst hsz
  have hD := hD0.self (sz := s.heap.size)
  generalize hAe : va_A (mW h0 kB kI kZ q g F) s.heap.size = A at hD ⊢
  have hA : ∀ q : Nat, s.heap.size ≤ q → A q := fun q h => by rw [← hAe]; exact Or.inr h
  have hS : va_S A s.heap s.heap [] := va_S.rf
  have hl := lv_entry ([.ref (q 52), .int p1, .int p2, .ref (q 52), .int p4, .int p5]) (n := 6) (Nat.le_of_ble_eq_true rfl)
  rw [lg_entry_eq]
  generalize (lg_sl ([.ref (q 52), .int p1, .int p2, .ref (q 52), .int p4, .int p5]) ++ List.replicate (6 - (lg_sl ([.ref (q 52), .int p1, .int p2, .ref (q 52), .int p4, .int p5])).length) Slot.unset).toArray = ls at hl ⊢
  exact bm_rhyme_52_52 p1 p2 p4 p5 r hr hx hb hml hown hts hA hK hP hD hS hl (fun pc ls rz H locs he hz hd hP hD hS => by cases he; exact W.zret (v := r) hx hb hrt (z_nb hz) (fun t ht hW => ⟨⟨r, (), rfl, rfl, by rw [ht]; exact hP, va_K.moved hW.alike hK, hD⟩, hS.F ht⟩) hS.2.2 hd)
set_option maxHeartbeats 4000000 in
set_option maxRecDepth 100000 in
theorem bm_rhymeAt {p : Program} {l : Launch} {e : Env} {s : State} {m : MethodId} {args : Array Value} {below : List Frame} {meth : Method} {c : Code} {Q : State → Prop} {A : Nat → Prop} {dC : Nat → ClassId} {dI : Nat → Nat → Nat} {h0 : Nat} {kB kI kZ : ClassId} {q : Nat → Nat} {g : Nat → Int32} {F : Nat → Nat → Int32} {H : Heap} {locs : List Loc} {ls : Array Slot} (p0 : Int32) (p1 : Int32) (p2 : Int32) (r : Int32) (hr : f_rhymeAt g F p0 p1 p2 = some r) (hx : p.tables.exec = Jvm.exec) (hb : c.code = cX12_rhymeAt) (hml : c.maxLocals = 6) (hown : s.vm.findClass RX12 = some m.cls) (hts : ∀ w ∈ vmX12_rhymeAt, w.before args s = true) (hA : ∀ q : Nat, s.heap.size ≤ q → A q) (hK : va_K (dC, dI) vwCl (mT kB kI kZ) s) (hP : va_P (dC, dI) vwCl (mW h0 kB kI kZ q g F) H) (hD : va_D A (mW h0 kB kI kZ q g F)) (hS : va_S A s.heap H locs) (hl : lv_has ls 6 [(0, .ref h0), (1, .int p0), (2, .int p1), (3, .int p2)])
    (K : ∀ (pc : Nat) (ls : Array Slot) (rz : Int32) (H : Heap) (locs : List Loc), some rz = some r → is01 rz → decode cX12_rhymeAt pc = .ok (.ireturn, 1) → va_P (dC, dI) vwCl (mW h0 kB kI kZ q g F) H → va_D A (mW h0 kB kI kZ q g F) → va_S A s.heap H locs → W p l e ({ frames := 4, cells := 0, slots := 0, locals := 111 } : Room) s m args below meth c H locs 0 0 Q (F0 m pc ls [.int rz])) : W p l e ({ frames := 4, cells := 0, slots := 0, locals := 111 } : Room) s m args below meth c H locs 0 0 Q (F0 m 0 ls []) := by
  unfold f_rhymeAt at hr
  refine lv_bipush (v := 12) hx hb dX12_rhymeAt_0 (by decide +kernel) ?_
  refine lv_bipush (v := 7) hx hb dX12_rhymeAt_2 (by decide +kernel) ?_
  refine lv_iload_n hx hb dX12_rhymeAt_4 rfl (lv_at hl 1 rfl) ?_
  refine lv_imul hx hb dX12_rhymeAt_5 ?_
  refine lv_iload_n hx hb dX12_rhymeAt_6 rfl (lv_at hl 3 rfl) ?_
  refine lv_iadd hx hb dX12_rhymeAt_7 ?_
  refine lv_imul hx hb dX12_rhymeAt_8 ?_
  refine lv_topi (fun x9 ex9 => ?_)
  replace hr := vlS hr x9 ex9
  clear ex9
  refine lv_istore (lv' := [(4, .int x9), (0, .ref h0), (1, .int p0), (2, .int p1), (3, .int p2)]) hx hb dX12_rhymeAt_9 hl (by decide) rfl (fun ls hl => ?_)
  have lp11 : ∀ (n11 : Nat) (y11_4 : Int32) (H : Heap) (locs : List Loc) (ls : Array Slot), L_rhymeAt_11 F p0 p1 p2 n11 y11_4 = some r → va_P (dC, dI) vwCl (mW h0 kB kI kZ q g F) H → va_D A (mW h0 kB kI kZ q g F) → va_S A s.heap H locs → lv_has ls 6 [(0, .ref h0), (1, .int p0), (2, .int p1), (3, .int p2), (4, .int y11_4)] → W p l e ({ frames := 4, cells := 0, slots := 0, locals := 111 } : Room) s m args below meth c H locs 0 0 Q (F0 m 11 ls []) := by
    intro n11
    induction n11 with
    | zero => intro y11_4 H locs ls hr; exact nomatch (show none = some r from hr)
    | succ n11 ih11 =>
      intro y11_4 H locs ls hr hP hD hS hl
      replace hr : B_rhymeAt_11 F p0 p1 p2 (L_rhymeAt_11 F p0 p1 p2 n11) y11_4 = some r := hr
      unfold B_rhymeAt_11 at hr
      refine lv_iload hx hb dX12_rhymeAt_11 (lv_at hl 4 rfl) ?_
      refine lv_bipush (v := 12) hx hb dX12_rhymeAt_13 (by decide +kernel) ?_
      refine lv_bipush (v := 7) hx hb dX12_rhymeAt_15 (by decide +kernel) ?_
      refine lv_iload_n hx hb dX12_rhymeAt_17 rfl (lv_at hl 1 rfl) ?_
      refine lv_imul hx hb dX12_rhymeAt_18 ?_
      refine lv_iload_n hx hb dX12_rhymeAt_19 rfl (lv_at hl 3 rfl) ?_
      refine lv_iadd hx hb dX12_rhymeAt_20 ?_
      refine lv_imul hx hb dX12_rhymeAt_21 ?_
      refine lv_aload_n hx hb dX12_rhymeAt_22 rfl (lv_at hl 0 rfl) ?_
      refine va_get (D := (dC, dI)) (ci := 12) (v := .ref (q 54)) (C := RX12) (T := TX12) (N := 71) hx hb hts inX12 hown hK hP 0 rfl rfl 54 (by decide) (hts (.fieldLink RX12 119 "SpellTurnerModel" "formMany" "[I") im_107) (fun _ h9 => h9) rfl dX12_rhymeAt_23 ?_
      refine lv_bipush (v := 7) hx hb dX12_rhymeAt_26 (by decide +kernel) ?_
      refine lv_iload_n hx hb dX12_rhymeAt_28 rfl (lv_at hl 1 rfl) ?_
      refine lv_imul hx hb dX12_rhymeAt_29 ?_
      refine lv_iload_n hx hb dX12_rhymeAt_30 rfl (lv_at hl 3 rfl) ?_
      refine lv_iadd hx hb dX12_rhymeAt_31 ?_
      replace hr := iteS hr
      obtain ⟨hi32, hr⟩ := hr
      refine va_iald (f := (F 54)) hx hb hK hP 35 1 rfl rfl (inbV hi32) dX12_rhymeAt_32 ?_
      refine lv_iadd hx hb dX12_rhymeAt_33 ?_
      refine lv_icmp_ge (tgt := 126) hx hb dX12_rhymeAt_34 (by decide) (fun c34 => ?_) (fun c34 => ?_)
      · replace hr := iteT c34 hr
        refine lv_iconst (v := 0) hx hb dX12_rhymeAt_126 (by decide +kernel) ?_
        exact K 127 ls _ H _ hr (by decide) dX12_rhymeAt_127 hP hD hS
      · replace hr := iteF c34 hr
        refine lv_bipush (v := 12) hx hb dX12_rhymeAt_37 (by decide +kernel) ?_
        refine lv_bipush (v := 7) hx hb dX12_rhymeAt_39 (by decide +kernel) ?_
        refine lv_iload_n hx hb dX12_rhymeAt_41 rfl (lv_at hl 2 rfl) ?_
        refine lv_imul hx hb dX12_rhymeAt_42 ?_
        refine lv_iload_n hx hb dX12_rhymeAt_43 rfl (lv_at hl 3 rfl) ?_
        refine lv_iadd hx hb dX12_rhymeAt_44 ?_
        refine lv_imul hx hb dX12_rhymeAt_45 ?_
        refine lv_topi (fun x46 ex46 => ?_)
        replace hr := vlS hr x46 ex46
        clear ex46
        refine lv_istore (lv' := [(5, .int x46), (0, .ref h0), (1, .int p0), (2, .int p1), (3, .int p2), (4, .int y11_4)]) hx hb dX12_rhymeAt_46 hl (by decide) rfl (fun ls hl => ?_)
        replace hr := jnS hr
        obtain ⟨k120, hk120, hr⟩ := hr
        have Jk120 : ∀ (H : Heap) (locs : List Loc) (ls : Array Slot), k120 () = some r → va_P (dC, dI) vwCl (mW h0 kB kI kZ q g F) H → va_D A (mW h0 kB kI kZ q g F) → va_S A s.heap H locs → lv_has ls 6 [(0, .ref h0), (1, .int p0), (2, .int p1), (3, .int p2), (4, .int y11_4)] → W p l e ({ frames := 4, cells := 0, slots := 0, locals := 111 } : Room) s m args below meth c H locs 0 0 Q (F0 m 120 ls []) := by
          intro H locs ls hr hP hD hS hl
          rw [hk120] at hr
          refine lv_iinc (v := (y11_4 + 1)) (lv' := [(4, .int (y11_4 + 1)), (0, .ref h0), (1, .int p0), (2, .int p1), (3, .int p2)]) hx hb dX12_rhymeAt_120 hl (k := 4) rfl rfl (by decide) rfl (fun ls hl => ?_)
          refine lv_goto (tgt := 11) hx hb dX12_rhymeAt_123 (by decide) ?_
          exact ih11 (y11_4 + 1) H _ ls hr hP hD hS (lv_sub hl [1, 2, 3, 4, 0] rfl)
        have lp48 : ∀ (n48 : Nat) (y48_5 : Int32) (H : Heap) (locs : List Loc) (ls : Array Slot), L_rhymeAt_48 F p1 p2 y11_4 k120 n48 y48_5 = some r → va_P (dC, dI) vwCl (mW h0 kB kI kZ q g F) H → va_D A (mW h0 kB kI kZ q g F) → va_S A s.heap H locs → lv_has ls 6 [(0, .ref h0), (1, .int p0), (2, .int p1), (3, .int p2), (4, .int y11_4), (5, .int y48_5)] → W p l e ({ frames := 4, cells := 0, slots := 0, locals := 111 } : Room) s m args below meth c H locs 0 0 Q (F0 m 48 ls []) := by
          intro n48
          induction n48 with
          | zero => intro y48_5 H locs ls hr; exact nomatch (show none = some r from hr)
          | succ n48 ih48 =>
            intro y48_5 H locs ls hr hP hD hS hl
            replace hr : B_rhymeAt_48 F p1 p2 y11_4 k120 (L_rhymeAt_48 F p1 p2 y11_4 k120 n48) y48_5 = some r := hr
            unfold B_rhymeAt_48 at hr
            refine lv_iload hx hb dX12_rhymeAt_48 (lv_at hl 5 rfl) ?_
            refine lv_bipush (v := 12) hx hb dX12_rhymeAt_50 (by decide +kernel) ?_
            refine lv_bipush (v := 7) hx hb dX12_rhymeAt_52 (by decide +kernel) ?_
            refine lv_iload_n hx hb dX12_rhymeAt_54 rfl (lv_at hl 2 rfl) ?_
            refine lv_imul hx hb dX12_rhymeAt_55 ?_
            refine lv_iload_n hx hb dX12_rhymeAt_56 rfl (lv_at hl 3 rfl) ?_
            refine lv_iadd hx hb dX12_rhymeAt_57 ?_
            refine lv_imul hx hb dX12_rhymeAt_58 ?_
            refine lv_aload_n hx hb dX12_rhymeAt_59 rfl (lv_at hl 0 rfl) ?_
            refine va_get (D := (dC, dI)) (ci := 12) (v := .ref (q 54)) (C := RX12) (T := TX12) (N := 71) hx hb hts inX12 hown hK hP 0 rfl rfl 54 (by decide) (hts (.fieldLink RX12 119 "SpellTurnerModel" "formMany" "[I") im_107) (fun _ h9 => h9) rfl dX12_rhymeAt_60 ?_
            refine lv_bipush (v := 7) hx hb dX12_rhymeAt_63 (by decide +kernel) ?_
            refine lv_iload_n hx hb dX12_rhymeAt_65 rfl (lv_at hl 2 rfl) ?_
            refine lv_imul hx hb dX12_rhymeAt_66 ?_
            refine lv_iload_n hx hb dX12_rhymeAt_67 rfl (lv_at hl 3 rfl) ?_
            refine lv_iadd hx hb dX12_rhymeAt_68 ?_
            replace hr := iteS hr
            obtain ⟨hi69, hr⟩ := hr
            refine va_iald (f := (F 54)) hx hb hK hP 35 1 rfl rfl (inbV hi69) dX12_rhymeAt_69 ?_
            refine lv_iadd hx hb dX12_rhymeAt_70 ?_
            refine lv_icmp_ge (tgt := 120) hx hb dX12_rhymeAt_71 (by decide) (fun c71 => ?_) (fun c71 => ?_)
            · replace hr := iteT c71 hr
              exact Jk120 H _ ls hr hP hD hS (lv_sub hl [0, 1, 2, 3, 4] rfl)
            · replace hr := iteF c71 hr
              refine lv_aload_n hx hb dX12_rhymeAt_74 rfl (lv_at hl 0 rfl) ?_
              refine va_get (D := (dC, dI)) (ci := 12) (v := .ref (q 52)) (C := RX12) (T := TX12) (N := 71) hx hb hts inX12 hown hK hP 0 rfl rfl 52 (by decide) (hts (.fieldLink RX12 113 "SpellTurnerModel" "formText" "[B") im_108) (fun _ h9 => h9) rfl dX12_rhymeAt_75 ?_
              refine lv_bipush (v := 24) hx hb dX12_rhymeAt_78 (by decide +kernel) ?_
              refine lv_iload hx hb dX12_rhymeAt_80 (lv_at hl 4 rfl) ?_
              refine lv_imul hx hb dX12_rhymeAt_82 ?_
              refine lv_aload_n hx hb dX12_rhymeAt_83 rfl (lv_at hl 0 rfl) ?_
              refine va_get (D := (dC, dI)) (ci := 12) (v := .ref (q 53)) (C := RX12) (T := TX12) (N := 71) hx hb hts inX12 hown hK hP 0 rfl rfl 53 (by decide) (hts (.fieldLink RX12 116 "SpellTurnerModel" "formSize" "[I") im_109) (fun _ h9 => h9) rfl dX12_rhymeAt_84 ?_
              refine lv_iload hx hb dX12_rhymeAt_87 (lv_at hl 4 rfl) ?_
              replace hr := iteS hr
              obtain ⟨hi89, hr⟩ := hr
              refine va_iald (f := (F 53)) hx hb hK hP 34 1 rfl rfl (inbV hi89) dX12_rhymeAt_89 ?_
              refine lv_aload_n hx hb dX12_rhymeAt_90 rfl (lv_at hl 0 rfl) ?_
              refine va_get (D := (dC, dI)) (ci := 12) (v := .ref (q 52)) (C := RX12) (T := TX12) (N := 71) hx hb hts inX12 hown hK hP 0 rfl rfl 52 (by decide) (hts (.fieldLink RX12 113 "SpellTurnerModel" "formText" "[B") im_108) (fun _ h9 => h9) rfl dX12_rhymeAt_91 ?_
              refine lv_bipush (v := 24) hx hb dX12_rhymeAt_94 (by decide +kernel) ?_
              refine lv_iload hx hb dX12_rhymeAt_96 (lv_at hl 5 rfl) ?_
              refine lv_imul hx hb dX12_rhymeAt_98 ?_
              refine lv_aload_n hx hb dX12_rhymeAt_99 rfl (lv_at hl 0 rfl) ?_
              refine va_get (D := (dC, dI)) (ci := 12) (v := .ref (q 53)) (C := RX12) (T := TX12) (N := 71) hx hb hts inX12 hown hK hP 0 rfl rfl 53 (by decide) (hts (.fieldLink RX12 116 "SpellTurnerModel" "formSize" "[I") im_109) (fun _ h9 => h9) rfl dX12_rhymeAt_100 ?_
              refine lv_iload hx hb dX12_rhymeAt_103 (lv_at hl 5 rfl) ?_
              replace hr := iteS hr
              obtain ⟨hi105, hr⟩ := hr
              refine va_iald (f := (F 53)) hx hb hK hP 34 1 rfl rfl (inbV hi105) dX12_rhymeAt_105 ?_
              replace hr := b1S hr
              obtain ⟨r106z, hc106, hr⟩ := hr
              have hFc := fr_all hD hS hA
              refine va_calli (va_runS (As := [.ref (q 52), .int (24 * y11_4), .int ((F 53) (Int32.toNatClampNeg y11_4)), .ref (q 52), .int (24 * y48_5), .int ((F 53) (Int32.toNatClampNeg y48_5))]) (rest := []) ⟨hx, hb, hml, hown, hts⟩ (m_rhyme_52_52 l dC dI H.size h0 kB kI kZ q g F (24 * y11_4) ((F 53) (Int32.toNatClampNeg y11_4)) (24 * y48_5) ((F 53) (Int32.toNatClampNeg y48_5)) r106z hc106) (va_cwS 6 hts gw_X12_rhyme_331 rfl rfl rfl (by decide +kernel) ⟨Nat.le_of_ble_eq_true rfl, Nat.le_of_ble_eq_true rfl⟩) ⟨fun a U g mk q => by obtain ⟨q0, q1, qP, qK, qD⟩ := q; exact ⟨q0, q1, qP, va_K.moved (u := U) (U := U.calling g mk a) (Vm.Alike.refl U.vm) qK, qD⟩, fun U hU hW => ⟨rfl, by rw [hU], by rw [hU]; exact hP, va_K.moved hW.alike hK, hD.weaken (fun _ _ _ _ => trivial)⟩⟩ rfl rfl hl.1 rfl (lv_room (Nat.le_of_ble_eq_true rfl)) dX12_rhymeAt_106 ⟨Nat.le_of_ble_eq_true rfl, Nat.le_of_ble_eq_true rfl⟩) hS (fun q _ h => hFc q h) hFc (fun r106 u t H1 locs ht hvm hw hB hz1 hk1 hS => ?_)
              replace hw : r106 = r106z := hw
              subst hw
              obtain ⟨hP1, hK1, hD1⟩ := hB
              rw [ht] at hP1
              obtain ⟨hP, hD⟩ := jn_all (w1 := (mW h0 kB kI kZ q g F)) hFc hP1 hD1
              clear hFc hP1 hK1 hD1 hk1 hz1 ht hvm
              generalize H1 = H at hP hS ⊢
              have hP : va_P (dC, dI) vwCl (mW h0 kB kI kZ q g F) H := hP
              have hD : va_D A (mW h0 kB kI kZ q g F) := hD
              refine lv_if_eq (tgt := 114) hx hb dX12_rhymeAt_109 (by decide) (fun c109 => ?_) (fun c109 => ?_)
              · replace hr := iteT c109 hr
                refine lv_iinc (v := (y48_5 + 1)) (lv' := [(5, .int (y48_5 + 1)), (0, .ref h0), (1, .int p0), (2, .int p1), (3, .int p2), (4, .int y11_4)]) hx hb dX12_rhymeAt_114 hl (k := 5) rfl rfl (by decide) rfl (fun ls hl => ?_)
                refine lv_goto (tgt := 48) hx hb dX12_rhymeAt_117 (by decide) ?_
                exact ih48 (y48_5 + 1) H _ ls hr hP hD hS (lv_sub hl [1, 2, 3, 4, 5, 0] rfl)
              · replace hr := iteF c109 hr
                refine lv_iconst (v := 1) hx hb dX12_rhymeAt_112 (by decide +kernel) ?_
                exact K 113 ls _ H _ hr (by decide) dX12_rhymeAt_113 hP hD hS
        exact lp48 NN x46 H _ ls hr hP hD hS (lv_sub hl [1, 2, 3, 4, 5, 0] rfl)
  exact lp11 NN x9 H _ ls hr hP hD hS (lv_sub hl [1, 2, 3, 4, 0] rfl)
set_option maxHeartbeats 4000000 in
set_option maxRecDepth 100000 in
theorem m_rhymeAt (l : Launch) (dC : Nat → ClassId) (dI : Nat → Nat → Nat) (sz : Nat) (h0 : Nat) (kB kI kZ : ClassId) (q : Nat → Nat) (g : Nat → Int32) (F : Nat → Nat → Int32) (p0 : Int32) (p1 : Int32) (p2 : Int32) (r : Int32) (hr : f_rhymeAt g F p0 p1 p2 = some r) : Met l yX12_rhymeAt vmX12_rhymeAt ({ frames := 4, cells := 0, slots := 0, locals := 111 } : Room) (va_Pc [.ref h0, .int p0, .int p1, .int p2] (fun U => U.heap.size = sz ∧ va_P (dC, dI) vwCl (mW h0 kB kI kZ q g F) U.heap ∧ va_K (dC, dI) vwCl (mT kB kI kZ) U ∧ va_D (fun _ => True) (mW h0 kB kI kZ q g F))) (va_Qi (fun (rz : Int32) (_ : Unit) => rz = r) (fun _ t => va_P (dC, dI) vwCl (mW h0 kB kI kZ q g F) t.heap ∧ va_K (dC, dI) vwCl (mT kB kI kZ) t ∧ va_D (va_A (mW h0 kB kI kZ q g F) sz) (mW h0 kB kI kZ q g F)) (va_A (mW h0 kB kI kZ q g F) sz)) 0 0 (va_A (mW h0 kB kI kZ q g F) sz) := by
  refine Met.ofW (cc := cX12_rhymeAt) (maxL := 6) (ret := (some .boolean)) (by decide) rfl ?_
  intro p e s m args below meth c s₁ B hml hv
  obtain ⟨rfl, hsz, hP, hK, hD0⟩ := hv
  have hx := B.exec
  have hb := B.bytes
  have hrt := B.returns
  have hts := atoms_spec (ws := vmX12_rhymeAt) B.pre
  have hown : s.vm.findClass RX12 = some m.cls := findClass_of_methodNamed B.named
  subst hsz
  have hD := hD0.self (sz := s.heap.size)
  generalize hAe : va_A (mW h0 kB kI kZ q g F) s.heap.size = A at hD ⊢
  have hA : ∀ q : Nat, s.heap.size ≤ q → A q := fun q h => by rw [← hAe]; exact Or.inr h
  have hS : va_S A s.heap s.heap [] := va_S.rf
  have hl := lv_entry ([.ref h0, .int p0, .int p1, .int p2]) (n := 6) (Nat.le_of_ble_eq_true rfl)
  rw [lg_entry_eq]
  generalize (lg_sl ([.ref h0, .int p0, .int p1, .int p2]) ++ List.replicate (6 - (lg_sl ([.ref h0, .int p0, .int p1, .int p2])).length) Slot.unset).toArray = ls at hl ⊢
  exact bm_rhymeAt p0 p1 p2 r hr hx hb hml hown hts hA hK hP hD hS hl (fun pc ls rz H locs he hz hd hP hD hS => by cases he; exact W.zret (v := r) hx hb hrt (z_nb hz) (fun t ht hW => ⟨⟨r, (), rfl, rfl, by rw [ht]; exact hP, va_K.moved hW.alike hK, hD⟩, hS.F ht⟩) hS.2.2 hd)
set_option maxHeartbeats 4000000 in
set_option maxRecDepth 100000 in
theorem bm_sameBytes_20_22 {p : Program} {l : Launch} {e : Env} {s : State} {m : MethodId} {args : Array Value} {below : List Frame} {meth : Method} {c : Code} {Q : State → Prop} {A : Nat → Prop} {dC : Nat → ClassId} {dI : Nat → Nat → Nat} {h0 : Nat} {kB kI kZ : ClassId} {q : Nat → Nat} {g : Nat → Int32} {F : Nat → Nat → Int32} {H : Heap} {locs : List Loc} {ls : Array Slot} (p1 : Int32) (p2 : Int32) (p4 : Int32) (p5 : Int32) (r : Int32) (hr : f_sameBytes (F 20) 8960 p1 p2 (F 22) 24 p4 p5 = some r) (hx : p.tables.exec = Jvm.exec) (hb : c.code = cX12_sameBytes) (hml : c.maxLocals = 7) (hown : s.vm.findClass RX12 = some m.cls) (hts : ∀ w ∈ vmX12_sameBytes, w.before args s = true) (hA : ∀ q : Nat, s.heap.size ≤ q → A q) (hK : va_K (dC, dI) vwCl (mT kB kI kZ) s) (hP : va_P (dC, dI) vwCl (mW h0 kB kI kZ q g F) H) (hD : va_D A (mW h0 kB kI kZ q g F)) (hS : va_S A s.heap H locs) (hl : lv_has ls 7 [(0, .ref (q 20)), (1, .int p1), (2, .int p2), (3, .ref (q 22)), (4, .int p4), (5, .int p5)])
    (K : ∀ (pc : Nat) (ls : Array Slot) (rz : Int32) (H : Heap) (locs : List Loc), some rz = some r → is01 rz → decode cX12_sameBytes pc = .ok (.ireturn, 1) → va_P (dC, dI) vwCl (mW h0 kB kI kZ q g F) H → va_D A (mW h0 kB kI kZ q g F) → va_S A s.heap H locs → W p l e ({ frames := 2, cells := 0, slots := 0, locals := 60 } : Room) s m args below meth c H locs 0 0 Q (F0 m pc ls [.int rz])) : W p l e ({ frames := 2, cells := 0, slots := 0, locals := 60 } : Room) s m args below meth c H locs 0 0 Q (F0 m 0 ls []) := by
  unfold f_sameBytes at hr
  refine lv_iload_n hx hb dX12_sameBytes_0 rfl (lv_at hl 2 rfl) ?_
  refine lv_iload hx hb dX12_sameBytes_1 (lv_at hl 5 rfl) ?_
  refine lv_icmp_eq (tgt := 8) hx hb dX12_sameBytes_3 (by decide) (fun c3 => ?_) (fun c3 => ?_)
  · replace hr := iteT c3 hr
    refine lv_iconst (v := 0) hx hb dX12_sameBytes_8 (by decide +kernel) ?_
    refine lv_istore (lv' := [(6, .int 0), (0, .ref (q 20)), (1, .int p1), (2, .int p2), (3, .ref (q 22)), (4, .int p4), (5, .int p5)]) hx hb dX12_sameBytes_9 hl (by decide) rfl (fun ls hl => ?_)
    have lp11 : ∀ (n11 : Nat) (y11_6 : Int32) (H : Heap) (locs : List Loc) (ls : Array Slot), L_sameBytes_11 (F 20) 8960 p1 p2 (F 22) 24 p4 n11 y11_6 = some r → va_P (dC, dI) vwCl (mW h0 kB kI kZ q g F) H → va_D A (mW h0 kB kI kZ q g F) → va_S A s.heap H locs → lv_has ls 7 [(0, .ref (q 20)), (1, .int p1), (2, .int p2), (3, .ref (q 22)), (4, .int p4), (6, .int y11_6)] → W p l e ({ frames := 2, cells := 0, slots := 0, locals := 60 } : Room) s m args below meth c H locs 0 0 Q (F0 m 11 ls []) := by
      intro n11
      induction n11 with
      | zero => intro y11_6 H locs ls hr; exact nomatch (show none = some r from hr)
      | succ n11 ih11 =>
        intro y11_6 H locs ls hr hP hD hS hl
        replace hr : B_sameBytes_11 (F 20) 8960 p1 p2 (F 22) 24 p4 (L_sameBytes_11 (F 20) 8960 p1 p2 (F 22) 24 p4 n11) y11_6 = some r := hr
        unfold B_sameBytes_11 at hr
        refine lv_iload hx hb dX12_sameBytes_11 (lv_at hl 5 rfl) ?_
        refine lv_iload_n hx hb dX12_sameBytes_13 rfl (lv_at hl 2 rfl) ?_
        refine lv_icmp_ge (tgt := 41) hx hb dX12_sameBytes_14 (by decide) (fun c14 => ?_) (fun c14 => ?_)
        · replace hr := iteT c14 hr
          refine lv_iconst (v := 1) hx hb dX12_sameBytes_41 (by decide +kernel) ?_
          exact K 42 ls _ H _ hr (by decide) dX12_sameBytes_42 hP hD hS
        · replace hr := iteF c14 hr
          refine lv_aload_n hx hb dX12_sameBytes_17 rfl (lv_at hl 0 rfl) ?_
          refine lv_iload_n hx hb dX12_sameBytes_18 rfl (lv_at hl 1 rfl) ?_
          refine lv_iload hx hb dX12_sameBytes_19 (lv_at hl 5 rfl) ?_
          refine lv_iadd hx hb dX12_sameBytes_21 ?_
          replace hr := iteS hr
          obtain ⟨hi22, hr⟩ := hr
          refine va_bald (f := (F 20)) hx hb hK hP 12 0 rfl rfl (inbV hi22) dX12_sameBytes_22 ?_
          refine lv_aload_n hx hb dX12_sameBytes_23 rfl (lv_at hl 3 rfl) ?_
          refine lv_iload hx hb dX12_sameBytes_24 (lv_at hl 4 rfl) ?_
          refine lv_iload hx hb dX12_sameBytes_26 (lv_at hl 5 rfl) ?_
          refine lv_iadd hx hb dX12_sameBytes_28 ?_
          replace hr := iteS hr
          obtain ⟨hi29, hr⟩ := hr
          refine va_bald (f := (F 22)) hx hb hK hP 14 0 rfl rfl (inbV hi29) dX12_sameBytes_29 ?_
          refine lv_icmp_eq (tgt := 35) hx hb dX12_sameBytes_30 (by decide) (fun c30 => ?_) (fun c30 => ?_)
          · replace hr := iteT c30 hr
            refine lv_iinc (v := (y11_6 + 1)) (lv' := [(6, .int (y11_6 + 1)), (0, .ref (q 20)), (1, .int p1), (2, .int p2), (3, .ref (q 22)), (4, .int p4)]) hx hb dX12_sameBytes_35 hl (k := 5) rfl rfl (by decide) rfl (fun ls hl => ?_)
            refine lv_goto (tgt := 11) hx hb dX12_sameBytes_38 (by decide) ?_
            exact ih11 (y11_6 + 1) H _ ls hr hP hD hS (lv_sub hl [1, 2, 3, 4, 5, 0] rfl)
          · replace hr := iteF c30 hr
            refine lv_iconst (v := 0) hx hb dX12_sameBytes_33 (by decide +kernel) ?_
            exact K 34 ls _ H _ hr (by decide) dX12_sameBytes_34 hP hD hS
    exact lp11 NN 0 H _ ls hr hP hD hS (lv_sub hl [1, 2, 3, 4, 5, 0] rfl)
  · replace hr := iteF c3 hr
    refine lv_iconst (v := 0) hx hb dX12_sameBytes_6 (by decide +kernel) ?_
    exact K 7 ls _ H _ hr (by decide) dX12_sameBytes_7 hP hD hS
set_option maxHeartbeats 4000000 in
set_option maxRecDepth 100000 in
theorem m_sameBytes_20_22 (l : Launch) (dC : Nat → ClassId) (dI : Nat → Nat → Nat) (sz : Nat) (h0 : Nat) (kB kI kZ : ClassId) (q : Nat → Nat) (g : Nat → Int32) (F : Nat → Nat → Int32) (p1 : Int32) (p2 : Int32) (p4 : Int32) (p5 : Int32) (r : Int32) (hr : f_sameBytes (F 20) 8960 p1 p2 (F 22) 24 p4 p5 = some r) : Met l yX12_sameBytes vmX12_sameBytes ({ frames := 2, cells := 0, slots := 0, locals := 60 } : Room) (va_Pc [.ref (q 20), .int p1, .int p2, .ref (q 22), .int p4, .int p5] (fun U => U.heap.size = sz ∧ va_P (dC, dI) vwCl (mW h0 kB kI kZ q g F) U.heap ∧ va_K (dC, dI) vwCl (mT kB kI kZ) U ∧ va_D (fun _ => True) (mW h0 kB kI kZ q g F))) (va_Qi (fun (rz : Int32) (_ : Unit) => rz = r) (fun _ t => va_P (dC, dI) vwCl (mW h0 kB kI kZ q g F) t.heap ∧ va_K (dC, dI) vwCl (mT kB kI kZ) t ∧ va_D (va_A (mW h0 kB kI kZ q g F) sz) (mW h0 kB kI kZ q g F)) (va_A (mW h0 kB kI kZ q g F) sz)) 0 0 (va_A (mW h0 kB kI kZ q g F) sz) := by
  refine Met.ofW (cc := cX12_sameBytes) (maxL := 7) (ret := (some .boolean)) (by decide) rfl ?_
  intro p e s m args below meth c s₁ B hml hv
  obtain ⟨rfl, hsz, hP, hK, hD0⟩ := hv
  have hx := B.exec
  have hb := B.bytes
  have hrt := B.returns
  have hts := atoms_spec (ws := vmX12_sameBytes) B.pre
  have hown : s.vm.findClass RX12 = some m.cls := findClass_of_methodNamed B.named
  subst hsz
  have hD := hD0.self (sz := s.heap.size)
  generalize hAe : va_A (mW h0 kB kI kZ q g F) s.heap.size = A at hD ⊢
  have hA : ∀ q : Nat, s.heap.size ≤ q → A q := fun q h => by rw [← hAe]; exact Or.inr h
  have hS : va_S A s.heap s.heap [] := va_S.rf
  have hl := lv_entry ([.ref (q 20), .int p1, .int p2, .ref (q 22), .int p4, .int p5]) (n := 7) (Nat.le_of_ble_eq_true rfl)
  rw [lg_entry_eq]
  generalize (lg_sl ([.ref (q 20), .int p1, .int p2, .ref (q 22), .int p4, .int p5]) ++ List.replicate (7 - (lg_sl ([.ref (q 20), .int p1, .int p2, .ref (q 22), .int p4, .int p5])).length) Slot.unset).toArray = ls at hl ⊢
  exact bm_sameBytes_20_22 p1 p2 p4 p5 r hr hx hb hml hown hts hA hK hP hD hS hl (fun pc ls rz H locs he hz hd hP hD hS => by cases he; exact W.zret (v := r) hx hb hrt (z_nb hz) (fun t ht hW => ⟨⟨r, (), rfl, rfl, by rw [ht]; exact hP, va_K.moved hW.alike hK, hD⟩, hS.F ht⟩) hS.2.2 hd)
set_option maxHeartbeats 4000000 in
set_option maxRecDepth 100000 in
theorem bm_listedAs {p : Program} {l : Launch} {e : Env} {s : State} {m : MethodId} {args : Array Value} {below : List Frame} {meth : Method} {c : Code} {Q : State → Prop} {A : Nat → Prop} {dC : Nat → ClassId} {dI : Nat → Nat → Nat} {h0 : Nat} {kB kI kZ : ClassId} {q : Nat → Nat} {g : Nat → Int32} {F : Nat → Nat → Int32} {H : Heap} {locs : List Loc} {ls : Array Slot} (p0 : Int32) (r : Int32) (hr : f_listedAs g F p0 = some r) (hx : p.tables.exec = Jvm.exec) (hb : c.code = cX12_listedAs) (hml : c.maxLocals = 3) (hown : s.vm.findClass RX12 = some m.cls) (hts : ∀ w ∈ vmX12_listedAs, w.before args s = true) (hA : ∀ q : Nat, s.heap.size ≤ q → A q) (hK : va_K (dC, dI) vwCl (mT kB kI kZ) s) (hP : va_P (dC, dI) vwCl (mW h0 kB kI kZ q g F) H) (hD : va_D A (mW h0 kB kI kZ q g F)) (hS : va_S A s.heap H locs) (hl : lv_has ls 3 [(0, .ref h0), (1, .int p0)])
    (K : ∀ (pc : Nat) (ls : Array Slot) (rz : Int32) (H : Heap) (locs : List Loc), some rz = some r → decode cX12_listedAs pc = .ok (.ireturn, 1) → va_P (dC, dI) vwCl (mW h0 kB kI kZ q g F) H → va_D A (mW h0 kB kI kZ q g F) → va_S A s.heap H locs → W p l e ({ frames := 3, cells := 0, slots := 0, locals := 86 } : Room) s m args below meth c H locs 0 0 Q (F0 m pc ls [.int rz])) : W p l e ({ frames := 3, cells := 0, slots := 0, locals := 86 } : Room) s m args below meth c H locs 0 0 Q (F0 m 0 ls []) := by
  unfold f_listedAs at hr
  refine lv_bipush (v := 40) hx hb dX12_listedAs_0 (by decide +kernel) ?_
  refine lv_iload_n hx hb dX12_listedAs_2 rfl (lv_at hl 1 rfl) ?_
  refine lv_imul hx hb dX12_listedAs_3 ?_
  refine lv_topi (fun x4 ex4 => ?_)
  replace hr := vlS hr x4 ex4
  clear ex4
  refine lv_istore_n (lv' := [(2, .int x4), (0, .ref h0), (1, .int p0)]) hx hb dX12_listedAs_4 rfl hl (by decide) rfl (fun ls hl => ?_)
  have lp5 : ∀ (n5 : Nat) (y5_2 : Int32) (H : Heap) (locs : List Loc) (ls : Array Slot), L_listedAs_5 g F p0 n5 y5_2 = some r → va_P (dC, dI) vwCl (mW h0 kB kI kZ q g F) H → va_D A (mW h0 kB kI kZ q g F) → va_S A s.heap H locs → lv_has ls 3 [(0, .ref h0), (1, .int p0), (2, .int y5_2)] → W p l e ({ frames := 3, cells := 0, slots := 0, locals := 86 } : Room) s m args below meth c H locs 0 0 Q (F0 m 5 ls []) := by
    intro n5
    induction n5 with
    | zero => intro y5_2 H locs ls hr; exact nomatch (show none = some r from hr)
    | succ n5 ih5 =>
      intro y5_2 H locs ls hr hP hD hS hl
      replace hr : B_listedAs_5 g F p0 (L_listedAs_5 g F p0 n5) y5_2 = some r := hr
      unfold B_listedAs_5 at hr
      refine lv_iload_n hx hb dX12_listedAs_5 rfl (lv_at hl 2 rfl) ?_
      refine lv_bipush (v := 40) hx hb dX12_listedAs_6 (by decide +kernel) ?_
      refine lv_iload_n hx hb dX12_listedAs_8 rfl (lv_at hl 1 rfl) ?_
      refine lv_imul hx hb dX12_listedAs_9 ?_
      refine lv_aload_n hx hb dX12_listedAs_10 rfl (lv_at hl 0 rfl) ?_
      refine va_get (D := (dC, dI)) (ci := 12) (v := .ref (q 13)) (C := RX12) (T := TX12) (N := 71) hx hb hts inX12 hown hK hP 0 rfl rfl 13 (by decide) (hts (.fieldLink RX12 27 "SpellTurnerModel" "listed" "[I") im_62) (fun _ h9 => h9) rfl dX12_listedAs_11 ?_
      refine lv_iload_n hx hb dX12_listedAs_14 rfl (lv_at hl 1 rfl) ?_
      replace hr := iteS hr
      obtain ⟨hi15, hr⟩ := hr
      refine va_iald (f := (F 13)) hx hb hK hP 5 1 rfl rfl (inbV hi15) dX12_listedAs_15 ?_
      refine lv_iadd hx hb dX12_listedAs_16 ?_
      refine lv_icmp_ge (tgt := 59) hx hb dX12_listedAs_17 (by decide) (fun c17 => ?_) (fun c17 => ?_)
      · replace hr := iteT c17 hr
        refine lv_iconst (v := (-1)) hx hb dX12_listedAs_59 (by decide +kernel) ?_
        exact K 60 ls _ H _ hr dX12_listedAs_60 hP hD hS
      · replace hr := iteF c17 hr
        refine lv_aload_n hx hb dX12_listedAs_20 rfl (lv_at hl 0 rfl) ?_
        refine va_get (D := (dC, dI)) (ci := 12) (v := .ref (q 20)) (C := RX12) (T := TX12) (N := 71) hx hb hts inX12 hown hK hP 0 rfl rfl 20 (by decide) (hts (.fieldLink RX12 49 "SpellTurnerModel" "listText" "[B") im_121) (fun _ h9 => h9) rfl dX12_listedAs_21 ?_
        refine lv_bipush (v := 32) hx hb dX12_listedAs_24 (by decide +kernel) ?_
        refine lv_iload_n hx hb dX12_listedAs_26 rfl (lv_at hl 2 rfl) ?_
        refine lv_imul hx hb dX12_listedAs_27 ?_
        refine lv_aload_n hx hb dX12_listedAs_28 rfl (lv_at hl 0 rfl) ?_
        refine va_get (D := (dC, dI)) (ci := 12) (v := .ref (q 21)) (C := RX12) (T := TX12) (N := 71) hx hb hts inX12 hown hK hP 0 rfl rfl 21 (by decide) (hts (.fieldLink RX12 52 "SpellTurnerModel" "listSize" "[I") im_63) (fun _ h9 => h9) rfl dX12_listedAs_29 ?_
        refine lv_iconst (v := 2) hx hb dX12_listedAs_32 (by decide +kernel) ?_
        refine lv_iload_n hx hb dX12_listedAs_33 rfl (lv_at hl 2 rfl) ?_
        refine lv_imul hx hb dX12_listedAs_34 ?_
        replace hr := iteS hr
        obtain ⟨hi35, hr⟩ := hr
        refine va_iald (f := (F 21)) hx hb hK hP 13 1 rfl rfl (inbV hi35) dX12_listedAs_35 ?_
        refine lv_aload_n hx hb dX12_listedAs_36 rfl (lv_at hl 0 rfl) ?_
        refine va_get (D := (dC, dI)) (ci := 12) (v := .ref (q 22)) (C := RX12) (T := TX12) (N := 71) hx hb hts inX12 hown hK hP 0 rfl rfl 22 (by decide) (hts (.fieldLink RX12 55 "SpellTurnerModel" "word" "[B") im_50) (fun _ h9 => h9) rfl dX12_listedAs_37 ?_
        refine lv_iconst (v := 0) hx hb dX12_listedAs_40 (by decide +kernel) ?_
        refine lv_aload_n hx hb dX12_listedAs_41 rfl (lv_at hl 0 rfl) ?_
        refine va_get (D := (dC, dI)) (ci := 12) (v := .int (g 23)) (C := RX12) (T := TX12) (N := 71) hx hb hts inX12 hown hK hP 0 rfl rfl 23 (by decide) (hts (.fieldLink RX12 244 "SpellTurnerModel" "letters" "I") im_49) (fun _ h9 => h9) rfl dX12_listedAs_42 ?_
        replace hr := b1S hr
        obtain ⟨r45z, hc45, hr⟩ := hr
        have hFc := fr_all hD hS hA
        refine va_calli (va_runS (As := [.ref (q 20), .int (32 * y5_2), .int ((F 21) (Int32.toNatClampNeg (2 * y5_2))), .ref (q 22), .int 0, .int (g 23)]) (rest := []) ⟨hx, hb, hml, hown, hts⟩ (m_sameBytes_20_22 l dC dI H.size h0 kB kI kZ q g F (32 * y5_2) ((F 21) (Int32.toNatClampNeg (2 * y5_2))) 0 (g 23) r45z hc45) (va_cwS 6 hts gw_X12_sameBytes_273 rfl rfl rfl (by decide +kernel) ⟨Nat.le_of_ble_eq_true rfl, Nat.le_of_ble_eq_true rfl⟩) ⟨fun a U g mk q => by obtain ⟨q0, q1, qP, qK, qD⟩ := q; exact ⟨q0, q1, qP, va_K.moved (u := U) (U := U.calling g mk a) (Vm.Alike.refl U.vm) qK, qD⟩, fun U hU hW => ⟨rfl, by rw [hU], by rw [hU]; exact hP, va_K.moved hW.alike hK, hD.weaken (fun _ _ _ _ => trivial)⟩⟩ rfl rfl hl.1 rfl (lv_room (Nat.le_of_ble_eq_true rfl)) dX12_listedAs_45 ⟨Nat.le_of_ble_eq_true rfl, Nat.le_of_ble_eq_true rfl⟩) hS (fun q _ h => hFc q h) hFc (fun r45 u t H1 locs ht hvm hw hB hz1 hk1 hS => ?_)
        replace hw : r45 = r45z := hw
        subst hw
        obtain ⟨hP1, hK1, hD1⟩ := hB
        rw [ht] at hP1
        obtain ⟨hP, hD⟩ := jn_all (w1 := (mW h0 kB kI kZ q g F)) hFc hP1 hD1
        clear hFc hP1 hK1 hD1 hk1 hz1 ht hvm
        generalize H1 = H at hP hS ⊢
        have hP : va_P (dC, dI) vwCl (mW h0 kB kI kZ q g F) H := hP
        have hD : va_D A (mW h0 kB kI kZ q g F) := hD
        refine lv_if_eq (tgt := 53) hx hb dX12_listedAs_48 (by decide) (fun c48 => ?_) (fun c48 => ?_)
        · replace hr := iteT c48 hr
          refine lv_iinc (v := (y5_2 + 1)) (lv' := [(2, .int (y5_2 + 1)), (0, .ref h0), (1, .int p0)]) hx hb dX12_listedAs_53 hl (k := 2) rfl rfl (by decide) rfl (fun ls hl => ?_)
          refine lv_goto (tgt := 5) hx hb dX12_listedAs_56 (by decide) ?_
          exact ih5 (y5_2 + 1) H _ ls hr hP hD hS (lv_sub hl [1, 2, 0] rfl)
        · replace hr := iteF c48 hr
          refine lv_iload_n hx hb dX12_listedAs_51 rfl (lv_at hl 2 rfl) ?_
          exact K 52 ls _ H _ hr dX12_listedAs_52 hP hD hS
  exact lp5 NN x4 H _ ls hr hP hD hS (lv_sub hl [1, 2, 0] rfl)
set_option maxHeartbeats 4000000 in
set_option maxRecDepth 100000 in
theorem m_listedAs (l : Launch) (dC : Nat → ClassId) (dI : Nat → Nat → Nat) (sz : Nat) (h0 : Nat) (kB kI kZ : ClassId) (q : Nat → Nat) (g : Nat → Int32) (F : Nat → Nat → Int32) (p0 : Int32) (r : Int32) (hr : f_listedAs g F p0 = some r) : Met l yX12_listedAs vmX12_listedAs ({ frames := 3, cells := 0, slots := 0, locals := 86 } : Room) (va_Pc [.ref h0, .int p0] (fun U => U.heap.size = sz ∧ va_P (dC, dI) vwCl (mW h0 kB kI kZ q g F) U.heap ∧ va_K (dC, dI) vwCl (mT kB kI kZ) U ∧ va_D (fun _ => True) (mW h0 kB kI kZ q g F))) (va_Qi (fun (rz : Int32) (_ : Unit) => rz = r) (fun _ t => va_P (dC, dI) vwCl (mW h0 kB kI kZ q g F) t.heap ∧ va_K (dC, dI) vwCl (mT kB kI kZ) t ∧ va_D (va_A (mW h0 kB kI kZ q g F) sz) (mW h0 kB kI kZ q g F)) (va_A (mW h0 kB kI kZ q g F) sz)) 0 0 (va_A (mW h0 kB kI kZ q g F) sz) := by
  refine Met.ofW (cc := cX12_listedAs) (maxL := 3) (ret := (some .int)) (by decide) rfl ?_
  intro p e s m args below meth c s₁ B hml hv
  obtain ⟨rfl, hsz, hP, hK, hD0⟩ := hv
  have hx := B.exec
  have hb := B.bytes
  have hrt := B.returns
  have hts := atoms_spec (ws := vmX12_listedAs) B.pre
  have hown : s.vm.findClass RX12 = some m.cls := findClass_of_methodNamed B.named
  subst hsz
  have hD := hD0.self (sz := s.heap.size)
  generalize hAe : va_A (mW h0 kB kI kZ q g F) s.heap.size = A at hD ⊢
  have hA : ∀ q : Nat, s.heap.size ≤ q → A q := fun q h => by rw [← hAe]; exact Or.inr h
  have hS : va_S A s.heap s.heap [] := va_S.rf
  have hl := lv_entry ([.ref h0, .int p0]) (n := 3) (Nat.le_of_ble_eq_true rfl)
  rw [lg_entry_eq]
  generalize (lg_sl ([.ref h0, .int p0]) ++ List.replicate (3 - (lg_sl ([.ref h0, .int p0])).length) Slot.unset).toArray = ls at hl ⊢
  exact bm_listedAs p0 r hr hx hb hml hown hts hA hK hP hD hS hl (fun pc ls rz H locs he hd hP hD hS => by cases he; exact W.iret (v := r) hx hb hrt (fun t ht hW => ⟨⟨r, (), rfl, rfl, by rw [ht]; exact hP, va_K.moved hW.alike hK, hD⟩, hS.F ht⟩) hS.2.2 hd)
set_option maxHeartbeats 4000000 in
set_option maxRecDepth 100000 in
theorem bm_sameBytes_49_22 {p : Program} {l : Launch} {e : Env} {s : State} {m : MethodId} {args : Array Value} {below : List Frame} {meth : Method} {c : Code} {Q : State → Prop} {A : Nat → Prop} {dC : Nat → ClassId} {dI : Nat → Nat → Nat} {h0 : Nat} {kB kI kZ : ClassId} {q : Nat → Nat} {g : Nat → Int32} {F : Nat → Nat → Int32} {H : Heap} {locs : List Loc} {ls : Array Slot} (p1 : Int32) (p2 : Int32) (p4 : Int32) (p5 : Int32) (r : Int32) (hr : f_sameBytes (F 49) 2400 p1 p2 (F 22) 24 p4 p5 = some r) (hx : p.tables.exec = Jvm.exec) (hb : c.code = cX12_sameBytes) (hml : c.maxLocals = 7) (hown : s.vm.findClass RX12 = some m.cls) (hts : ∀ w ∈ vmX12_sameBytes, w.before args s = true) (hA : ∀ q : Nat, s.heap.size ≤ q → A q) (hK : va_K (dC, dI) vwCl (mT kB kI kZ) s) (hP : va_P (dC, dI) vwCl (mW h0 kB kI kZ q g F) H) (hD : va_D A (mW h0 kB kI kZ q g F)) (hS : va_S A s.heap H locs) (hl : lv_has ls 7 [(0, .ref (q 49)), (1, .int p1), (2, .int p2), (3, .ref (q 22)), (4, .int p4), (5, .int p5)])
    (K : ∀ (pc : Nat) (ls : Array Slot) (rz : Int32) (H : Heap) (locs : List Loc), some rz = some r → is01 rz → decode cX12_sameBytes pc = .ok (.ireturn, 1) → va_P (dC, dI) vwCl (mW h0 kB kI kZ q g F) H → va_D A (mW h0 kB kI kZ q g F) → va_S A s.heap H locs → W p l e ({ frames := 2, cells := 0, slots := 0, locals := 60 } : Room) s m args below meth c H locs 0 0 Q (F0 m pc ls [.int rz])) : W p l e ({ frames := 2, cells := 0, slots := 0, locals := 60 } : Room) s m args below meth c H locs 0 0 Q (F0 m 0 ls []) := by
  unfold f_sameBytes at hr
  refine lv_iload_n hx hb dX12_sameBytes_0 rfl (lv_at hl 2 rfl) ?_
  refine lv_iload hx hb dX12_sameBytes_1 (lv_at hl 5 rfl) ?_
  refine lv_icmp_eq (tgt := 8) hx hb dX12_sameBytes_3 (by decide) (fun c3 => ?_) (fun c3 => ?_)
  · replace hr := iteT c3 hr
    refine lv_iconst (v := 0) hx hb dX12_sameBytes_8 (by decide +kernel) ?_
    refine lv_istore (lv' := [(6, .int 0), (0, .ref (q 49)), (1, .int p1), (2, .int p2), (3, .ref (q 22)), (4, .int p4), (5, .int p5)]) hx hb dX12_sameBytes_9 hl (by decide) rfl (fun ls hl => ?_)
    have lp11 : ∀ (n11 : Nat) (y11_6 : Int32) (H : Heap) (locs : List Loc) (ls : Array Slot), L_sameBytes_11 (F 49) 2400 p1 p2 (F 22) 24 p4 n11 y11_6 = some r → va_P (dC, dI) vwCl (mW h0 kB kI kZ q g F) H → va_D A (mW h0 kB kI kZ q g F) → va_S A s.heap H locs → lv_has ls 7 [(0, .ref (q 49)), (1, .int p1), (2, .int p2), (3, .ref (q 22)), (4, .int p4), (6, .int y11_6)] → W p l e ({ frames := 2, cells := 0, slots := 0, locals := 60 } : Room) s m args below meth c H locs 0 0 Q (F0 m 11 ls []) := by
      intro n11
      induction n11 with
      | zero => intro y11_6 H locs ls hr; exact nomatch (show none = some r from hr)
      | succ n11 ih11 =>
        intro y11_6 H locs ls hr hP hD hS hl
        replace hr : B_sameBytes_11 (F 49) 2400 p1 p2 (F 22) 24 p4 (L_sameBytes_11 (F 49) 2400 p1 p2 (F 22) 24 p4 n11) y11_6 = some r := hr
        unfold B_sameBytes_11 at hr
        refine lv_iload hx hb dX12_sameBytes_11 (lv_at hl 5 rfl) ?_
        refine lv_iload_n hx hb dX12_sameBytes_13 rfl (lv_at hl 2 rfl) ?_
        refine lv_icmp_ge (tgt := 41) hx hb dX12_sameBytes_14 (by decide) (fun c14 => ?_) (fun c14 => ?_)
        · replace hr := iteT c14 hr
          refine lv_iconst (v := 1) hx hb dX12_sameBytes_41 (by decide +kernel) ?_
          exact K 42 ls _ H _ hr (by decide) dX12_sameBytes_42 hP hD hS
        · replace hr := iteF c14 hr
          refine lv_aload_n hx hb dX12_sameBytes_17 rfl (lv_at hl 0 rfl) ?_
          refine lv_iload_n hx hb dX12_sameBytes_18 rfl (lv_at hl 1 rfl) ?_
          refine lv_iload hx hb dX12_sameBytes_19 (lv_at hl 5 rfl) ?_
          refine lv_iadd hx hb dX12_sameBytes_21 ?_
          replace hr := iteS hr
          obtain ⟨hi22, hr⟩ := hr
          refine va_bald (f := (F 49)) hx hb hK hP 31 0 rfl rfl (inbV hi22) dX12_sameBytes_22 ?_
          refine lv_aload_n hx hb dX12_sameBytes_23 rfl (lv_at hl 3 rfl) ?_
          refine lv_iload hx hb dX12_sameBytes_24 (lv_at hl 4 rfl) ?_
          refine lv_iload hx hb dX12_sameBytes_26 (lv_at hl 5 rfl) ?_
          refine lv_iadd hx hb dX12_sameBytes_28 ?_
          replace hr := iteS hr
          obtain ⟨hi29, hr⟩ := hr
          refine va_bald (f := (F 22)) hx hb hK hP 14 0 rfl rfl (inbV hi29) dX12_sameBytes_29 ?_
          refine lv_icmp_eq (tgt := 35) hx hb dX12_sameBytes_30 (by decide) (fun c30 => ?_) (fun c30 => ?_)
          · replace hr := iteT c30 hr
            refine lv_iinc (v := (y11_6 + 1)) (lv' := [(6, .int (y11_6 + 1)), (0, .ref (q 49)), (1, .int p1), (2, .int p2), (3, .ref (q 22)), (4, .int p4)]) hx hb dX12_sameBytes_35 hl (k := 5) rfl rfl (by decide) rfl (fun ls hl => ?_)
            refine lv_goto (tgt := 11) hx hb dX12_sameBytes_38 (by decide) ?_
            exact ih11 (y11_6 + 1) H _ ls hr hP hD hS (lv_sub hl [1, 2, 3, 4, 5, 0] rfl)
          · replace hr := iteF c30 hr
            refine lv_iconst (v := 0) hx hb dX12_sameBytes_33 (by decide +kernel) ?_
            exact K 34 ls _ H _ hr (by decide) dX12_sameBytes_34 hP hD hS
    exact lp11 NN 0 H _ ls hr hP hD hS (lv_sub hl [1, 2, 3, 4, 5, 0] rfl)
  · replace hr := iteF c3 hr
    refine lv_iconst (v := 0) hx hb dX12_sameBytes_6 (by decide +kernel) ?_
    exact K 7 ls _ H _ hr (by decide) dX12_sameBytes_7 hP hD hS
set_option maxHeartbeats 4000000 in
set_option maxRecDepth 100000 in
theorem m_sameBytes_49_22 (l : Launch) (dC : Nat → ClassId) (dI : Nat → Nat → Nat) (sz : Nat) (h0 : Nat) (kB kI kZ : ClassId) (q : Nat → Nat) (g : Nat → Int32) (F : Nat → Nat → Int32) (p1 : Int32) (p2 : Int32) (p4 : Int32) (p5 : Int32) (r : Int32) (hr : f_sameBytes (F 49) 2400 p1 p2 (F 22) 24 p4 p5 = some r) : Met l yX12_sameBytes vmX12_sameBytes ({ frames := 2, cells := 0, slots := 0, locals := 60 } : Room) (va_Pc [.ref (q 49), .int p1, .int p2, .ref (q 22), .int p4, .int p5] (fun U => U.heap.size = sz ∧ va_P (dC, dI) vwCl (mW h0 kB kI kZ q g F) U.heap ∧ va_K (dC, dI) vwCl (mT kB kI kZ) U ∧ va_D (fun _ => True) (mW h0 kB kI kZ q g F))) (va_Qi (fun (rz : Int32) (_ : Unit) => rz = r) (fun _ t => va_P (dC, dI) vwCl (mW h0 kB kI kZ q g F) t.heap ∧ va_K (dC, dI) vwCl (mT kB kI kZ) t ∧ va_D (va_A (mW h0 kB kI kZ q g F) sz) (mW h0 kB kI kZ q g F)) (va_A (mW h0 kB kI kZ q g F) sz)) 0 0 (va_A (mW h0 kB kI kZ q g F) sz) := by
  refine Met.ofW (cc := cX12_sameBytes) (maxL := 7) (ret := (some .boolean)) (by decide) rfl ?_
  intro p e s m args below meth c s₁ B hml hv
  obtain ⟨rfl, hsz, hP, hK, hD0⟩ := hv
  have hx := B.exec
  have hb := B.bytes
  have hrt := B.returns
  have hts := atoms_spec (ws := vmX12_sameBytes) B.pre
  have hown : s.vm.findClass RX12 = some m.cls := findClass_of_methodNamed B.named
  subst hsz
  have hD := hD0.self (sz := s.heap.size)
  generalize hAe : va_A (mW h0 kB kI kZ q g F) s.heap.size = A at hD ⊢
  have hA : ∀ q : Nat, s.heap.size ≤ q → A q := fun q h => by rw [← hAe]; exact Or.inr h
  have hS : va_S A s.heap s.heap [] := va_S.rf
  have hl := lv_entry ([.ref (q 49), .int p1, .int p2, .ref (q 22), .int p4, .int p5]) (n := 7) (Nat.le_of_ble_eq_true rfl)
  rw [lg_entry_eq]
  generalize (lg_sl ([.ref (q 49), .int p1, .int p2, .ref (q 22), .int p4, .int p5]) ++ List.replicate (7 - (lg_sl ([.ref (q 49), .int p1, .int p2, .ref (q 22), .int p4, .int p5])).length) Slot.unset).toArray = ls at hl ⊢
  exact bm_sameBytes_49_22 p1 p2 p4 p5 r hr hx hb hml hown hts hA hK hP hD hS hl (fun pc ls rz H locs he hz hd hP hD hS => by cases he; exact W.zret (v := r) hx hb hrt (z_nb hz) (fun t ht hW => ⟨⟨r, (), rfl, rfl, by rw [ht]; exact hP, va_K.moved hW.alike hK, hD⟩, hS.F ht⟩) hS.2.2 hd)
set_option maxHeartbeats 4000000 in
set_option maxRecDepth 100000 in
theorem bm_learn {p : Program} {l : Launch} {e : Env} {s : State} {m : MethodId} {args : Array Value} {below : List Frame} {meth : Method} {c : Code} {Q : State → Prop} {A : Nat → Prop} {dC : Nat → ClassId} {dI : Nat → Nat → Nat} {h0 : Nat} {kB kI kZ : ClassId} {q : Nat → Nat} {g : Nat → Int32} {F : Nat → Nat → Int32} {H : Heap} {locs : List Loc} {ls : Array Slot} (r : Int32) (c_g1 : Int32) (c_g23 : Int32) (c_g48 : Int32) (c_g51 : Int32) (c_F22 : (Nat → Int32)) (c_F49 : (Nat → Int32)) (c_F50 : (Nat → Int32)) (hr : f_learn g F = some (r, c_g1, c_g23, c_g48, c_g51, c_F22, c_F49, c_F50)) (hx : p.tables.exec = Jvm.exec) (hb : c.code = cX12_learn) (hml : c.maxLocals = 2) (hown : s.vm.findClass RX12 = some m.cls) (hts : ∀ w ∈ vmX12_learn, w.before args s = true) (hA : ∀ q : Nat, s.heap.size ≤ q → A q) (hK : va_K (dC, dI) vwCl (mT kB kI kZ) s) (hP : va_P (dC, dI) vwCl (mW h0 kB kI kZ q g F) H) (hD : va_D A (mW h0 kB kI kZ q g F)) (hS : va_S A s.heap H locs) (hl : lv_has ls 2 [(0, .ref h0)])
    (K : ∀ (pc : Nat) (ls : Array Slot) (rz : Int32) (c_g1z : Int32) (c_g23z : Int32) (c_g48z : Int32) (c_g51z : Int32) (c_F22z : (Nat → Int32)) (c_F49z : (Nat → Int32)) (c_F50z : (Nat → Int32)) (H : Heap) (locs : List Loc), some (rz, c_g1z, c_g23z, c_g48z, c_g51z, c_F22z, c_F49z, c_F50z) = some (r, c_g1, c_g23, c_g48, c_g51, c_F22, c_F49, c_F50) → decode cX12_learn pc = .ok (.ireturn, 1) → va_P (dC, dI) vwCl (mW h0 kB kI kZ q (upd (upd (upd (upd g 1 c_g1z) 23 c_g23z) 48 c_g48z) 51 c_g51z) (upF (upF (upF F 22 c_F22z) 49 c_F49z) 50 c_F50z)) H → va_D A (mW h0 kB kI kZ q (upd (upd (upd (upd g 1 c_g1z) 23 c_g23z) 48 c_g48z) 51 c_g51z) (upF (upF (upF F 22 c_F22z) 49 c_F49z) 50 c_F50z)) → va_S A s.heap H locs → W p l e ({ frames := 4, cells := 0, slots := 0, locals := 106 } : Room) s m args below meth c H locs 0 0 Q (F0 m pc ls [.int rz])) : W p l e ({ frames := 4, cells := 0, slots := 0, locals := 106 } : Room) s m args below meth c H locs 0 0 Q (F0 m 0 ls []) := by
  unfold f_learn at hr
  refine lv_aload_n hx hb dX12_learn_0 rfl (lv_at hl 0 rfl) ?_
  replace hr := b4S hr
  obtain ⟨r1z, c1_g1, c1_g23, c1_F22, hc1, hr⟩ := hr
  have hFc := fr_all hD hS hA
  refine va_calli (va_runV (As := []) (rest := []) ⟨hx, hb, hml, hown, hts⟩ (m_readWord l dC dI H.size h0 kB kI kZ q g F r1z c1_g1 c1_g23 c1_F22 hc1) (cwV 0 hts gw_X12_readWord_297 rfl rfl rfl (by decide +kernel) ⟨Nat.le_of_ble_eq_true rfl, Nat.le_of_ble_eq_true rfl⟩) ⟨fun a U g mk q => by obtain ⟨q0, q1, qP, qK, qD⟩ := q; exact ⟨q0, q1, qP, va_K.moved (u := U) (U := U.calling g mk a) (Vm.Alike.refl U.vm) qK, qD⟩, va_recv hK hP (ci := 12) (q0 := 0) rfl rfl, fun U hU hW => ⟨rfl, by rw [hU], by rw [hU]; exact hP, va_K.moved hW.alike hK, hD.weaken (fun _ _ _ _ => trivial)⟩⟩ rfl rfl hl.1 rfl (lv_room (Nat.le_of_ble_eq_true rfl)) dX12_learn_1 ⟨Nat.le_of_ble_eq_true rfl, Nat.le_of_ble_eq_true rfl⟩) hS (fun q _ h => hFc q h) hFc (fun r1 u t H1 locs ht hvm hw hB hz1 hk1 hS => ?_)
  replace hw : r1 = r1z := hw
  subst hw
  obtain ⟨hP1, hK1, hD1⟩ := hB
  rw [ht] at hP1
  obtain ⟨hP, hD⟩ := jn_all (w1 := (mW h0 kB kI kZ q (upd (upd g 1 c1_g1) 23 c1_g23) (upF F 22 c1_F22))) hFc hP1 hD1
  clear hFc hP1 hK1 hD1 hk1 hz1 ht hvm
  generalize H1 = H at hP hS ⊢
  have hP : va_P (dC, dI) vwCl (mW h0 kB kI kZ q (upd (upd g 1 c1_g1) 23 c1_g23) (upF F 22 c1_F22)) H := hP
  have hD : va_D A (mW h0 kB kI kZ q (upd (upd g 1 c1_g1) 23 c1_g23) (upF F 22 c1_F22)) := hD
  refine lv_if_ne (tgt := 10) hx hb dX12_learn_4 (by decide) (fun c4 => ?_) (fun c4 => ?_)
  · replace hr := iteF c4 hr
    refine lv_iconst (v := 0) hx hb dX12_learn_10 (by decide +kernel) ?_
    refine lv_istore_n (lv' := [(1, .int 0), (0, .ref h0)]) hx hb dX12_learn_11 rfl hl (by decide) rfl (fun ls hl => ?_)
    replace hr := jnS hr
    obtain ⟨k57, hk57, hr⟩ := hr
    have Jk57 : ∀ (H : Heap) (locs : List Loc) (ls : Array Slot), k57 () = some (r, c_g1, c_g23, c_g48, c_g51, c_F22, c_F49, c_F50) → va_P (dC, dI) vwCl (mW h0 kB kI kZ q (upd (upd g 1 c1_g1) 23 c1_g23) (upF F 22 c1_F22)) H → va_D A (mW h0 kB kI kZ q (upd (upd g 1 c1_g1) 23 c1_g23) (upF F 22 c1_F22)) → va_S A s.heap H locs → lv_has ls 2 [(0, .ref h0)] → W p l e ({ frames := 4, cells := 0, slots := 0, locals := 106 } : Room) s m args below meth c H locs 0 0 Q (F0 m 57 ls []) := by
      intro H locs ls hr hP hD hS hl
      rw [hk57] at hr
      refine lv_aload_n hx hb dX12_learn_57 rfl (lv_at hl 0 rfl) ?_
      refine va_get (D := (dC, dI)) (ci := 12) (v := .int (g 48)) (C := RX12) (T := TX12) (N := 71) hx hb hts inX12 hown hK hP 0 rfl rfl 48 (by decide) (hts (.fieldLink RX12 312 "SpellTurnerModel" "words" "I") im_85) (fun _ h9 => h9) rfl dX12_learn_58 ?_
      refine lv_bipush (v := 100) hx hb dX12_learn_61 (by decide +kernel) ?_
      refine lv_icmp_ne (tgt := 69) hx hb dX12_learn_63 (by decide) (fun c63 => ?_) (fun c63 => ?_)
      · replace hr := iteF c63 hr
        refine lv_iconst (v := 0) hx hb dX12_learn_69 (by decide +kernel) ?_
        refine lv_istore_n (lv' := [(1, .int 0), (0, .ref h0)]) hx hb dX12_learn_70 rfl hl (by decide) rfl (fun ls hl => ?_)
        replace hr := jnS hr
        obtain ⟨k105, hk105, hr⟩ := hr
        have Jk105 : ∀ (c105_F49 : (Nat → Int32)) (H : Heap) (locs : List Loc) (ls : Array Slot), k105 c105_F49 = some (r, c_g1, c_g23, c_g48, c_g51, c_F22, c_F49, c_F50) → va_P (dC, dI) vwCl (mW h0 kB kI kZ q (upd (upd g 1 c1_g1) 23 c1_g23) (upF (upF F 22 c1_F22) 49 c105_F49)) H → va_D A (mW h0 kB kI kZ q (upd (upd g 1 c1_g1) 23 c1_g23) (upF (upF F 22 c1_F22) 49 c105_F49)) → va_S A s.heap H locs → lv_has ls 2 [(0, .ref h0)] → W p l e ({ frames := 4, cells := 0, slots := 0, locals := 106 } : Room) s m args below meth c H locs 0 0 Q (F0 m 105 ls []) := by
          intro c105_F49 H locs ls hr hP hD hS hl
          rw [hk105] at hr
          refine lv_aload_n hx hb dX12_learn_105 rfl (lv_at hl 0 rfl) ?_
          refine va_get (D := (dC, dI)) (ci := 12) (v := .ref (q 50)) (C := RX12) (T := TX12) (N := 71) hx hb hts inX12 hown hK hP 0 rfl rfl 50 (by decide) (hts (.fieldLink RX12 109 "SpellTurnerModel" "bookSize" "[I") im_86) (fun _ h9 => h9) rfl dX12_learn_106 ?_
          refine lv_aload_n hx hb dX12_learn_109 rfl (lv_at hl 0 rfl) ?_
          refine va_get (D := (dC, dI)) (ci := 12) (v := .int (g 48)) (C := RX12) (T := TX12) (N := 71) hx hb hts inX12 hown hK hP 0 rfl rfl 48 (by decide) (hts (.fieldLink RX12 312 "SpellTurnerModel" "words" "I") im_85) (fun _ h9 => h9) rfl dX12_learn_110 ?_
          refine lv_aload_n hx hb dX12_learn_113 rfl (lv_at hl 0 rfl) ?_
          refine va_get (D := (dC, dI)) (ci := 12) (v := .int c1_g23) (C := RX12) (T := TX12) (N := 71) hx hb hts inX12 hown hK hP 0 rfl rfl 23 (by decide) (hts (.fieldLink RX12 244 "SpellTurnerModel" "letters" "I") im_49) (fun _ h9 => h9) rfl dX12_learn_114 ?_
          replace hr := iteS hr
          obtain ⟨hi117, hr⟩ := hr
          refine va_iast (f := (F 50)) hx hb hK hP hD hS 32 1 rfl rfl (inbV hi117) dX12_learn_117 (fun H locs hP hD hS => ?_)
          obtain ⟨w117, ew117, hP, hD⟩ : ∃ w117 : Nat → Int32, w117 = (upd (F 50) (Int32.toNatClampNeg (g 48)) c1_g23) ∧ va_P (dC, dI) vwCl (mW h0 kB kI kZ q (upd (upd g 1 c1_g1) 23 c1_g23) (upF (upF (upF F 22 c1_F22) 49 c105_F49) 50 w117)) H ∧ va_D A (mW h0 kB kI kZ q (upd (upd g 1 c1_g1) 23 c1_g23) (upF (upF (upF F 22 c1_F22) 49 c105_F49) 50 w117)) := ⟨(upd (F 50) (Int32.toNatClampNeg (g 48)) c1_g23), rfl, by first | exact sP_F50 hP rfl | exact sP_F50 hP upF_same | exact hP, by first | exact sD_F50 hD rfl | exact sD_F50 hD upF_same | exact hD⟩
          replace hr := vlS hr w117 ew117
          clear ew117
          refine lv_aload_n hx hb dX12_learn_118 rfl (lv_at hl 0 rfl) ?_
          refine lv_dup hx hb dX12_learn_119 rfl ?_
          refine va_get (D := (dC, dI)) (ci := 12) (v := .int (g 48)) (C := RX12) (T := TX12) (N := 71) hx hb hts inX12 hown hK hP 0 rfl rfl 48 (by decide) (hts (.fieldLink RX12 312 "SpellTurnerModel" "words" "I") im_85) (fun _ h9 => h9) rfl dX12_learn_120 ?_
          refine lv_iconst (v := 1) hx hb dX12_learn_123 (by decide +kernel) ?_
          refine lv_iadd hx hb dX12_learn_124 ?_
          refine lv_topi (fun x125 ex125 => ?_)
          replace hr := vlS hr x125 ex125
          clear ex125
          refine va_put (D := (dC, dI)) (ci := 12) (v := .int x125) (ty := .int) (C := RX12) (T := TX12) (N := 71) hx hb hts inX12 tyX12 tyX12_ok nmX12 hown hK hP hD hS 0 rfl rfl 48 (by decide) (hts (.fieldLink RX12 312 "SpellTurnerModel" "words" "I") im_85) (fun _ h9 => h9) rfl (by decide +kernel) rfl rfl (Nat.le_of_ble_eq_true rfl) dX12_learn_125 (fun H locs hP hD hS => ?_)
          have hP : va_P (dC, dI) vwCl (mW h0 kB kI kZ q (upd (upd (upd g 1 c1_g1) 23 c1_g23) 48 x125) (upF (upF (upF F 22 c1_F22) 49 c105_F49) 50 w117)) H := by first | exact sP_g48 hP rfl | exact sP_g48 hP upd_same | exact hP
          have hD : va_D A (mW h0 kB kI kZ q (upd (upd (upd g 1 c1_g1) 23 c1_g23) 48 x125) (upF (upF (upF F 22 c1_F22) 49 c105_F49) 50 w117)) := by first | exact sD_g48 hD rfl | exact sD_g48 hD upd_same | exact hD
          refine lv_aload_n hx hb dX12_learn_128 rfl (lv_at hl 0 rfl) ?_
          refine lv_iconst (v := 0) hx hb dX12_learn_129 (by decide +kernel) ?_
          refine va_put (D := (dC, dI)) (ci := 12) (v := .int 0) (ty := .boolean) (C := RX12) (T := TX12) (N := 71) hx hb hts inX12 tyX12 tyX12_ok nmX12 hown hK hP hD hS 0 rfl rfl 51 (by decide) (hts (.fieldLink RX12 237 "SpellTurnerModel" "isMade" "Z") im_126) (fun _ h9 => h9) rfl (by decide +kernel) rfl rfl (Nat.le_of_ble_eq_true rfl) dX12_learn_130 (fun H locs hP hD hS => ?_)
          have hP : va_P (dC, dI) vwCl (mW h0 kB kI kZ q (upd (upd (upd (upd g 1 c1_g1) 23 c1_g23) 48 x125) 51 0) (upF (upF (upF F 22 c1_F22) 49 c105_F49) 50 w117)) H := by first | exact sP_g51 hP rfl | exact sP_g51 hP upd_same | exact hP
          have hD : va_D A (mW h0 kB kI kZ q (upd (upd (upd (upd g 1 c1_g1) 23 c1_g23) 48 x125) 51 0) (upF (upF (upF F 22 c1_F22) 49 c105_F49) 50 w117)) := by first | exact sD_g51 hD rfl | exact sD_g51 hD upd_same | exact hD
          refine lv_aload_n hx hb dX12_learn_133 rfl (lv_at hl 0 rfl) ?_
          refine va_get (D := (dC, dI)) (ci := 12) (v := .int x125) (C := RX12) (T := TX12) (N := 71) hx hb hts inX12 hown hK hP 0 rfl rfl 48 (by decide) (hts (.fieldLink RX12 312 "SpellTurnerModel" "words" "I") im_85) (fun _ h9 => h9) rfl dX12_learn_134 ?_
          refine lv_iconst (v := 1) hx hb dX12_learn_137 (by decide +kernel) ?_
          refine lv_isub hx hb dX12_learn_138 ?_
          first | exact K 139 ls _ _ _ _ _ _ _ _ H _ hr dX12_learn_139 (sP_eq (mW_cg (by repeat (first | with_reducible rfl | with_reducible refine upd_cg ?_ | refine Eq.trans ?_ (upd_id rfl))) (by repeat (first | with_reducible rfl | with_reducible refine upF_cg ?_ | refine Eq.trans ?_ (upF_id rfl)))) hP) (sD_eq (mW_cg (by repeat (first | with_reducible rfl | with_reducible refine upd_cg ?_ | refine Eq.trans ?_ (upd_id rfl))) (by repeat (first | with_reducible rfl | with_reducible refine upF_cg ?_ | refine Eq.trans ?_ (upF_id rfl)))) hD) hS | exact K 139 ls _ _ _ _ _ _ _ _ H _ hr dX12_learn_139 hP hD hS
        have lp71 : ∀ (n71 : Nat) (y71_1 : Int32) (d71_F49 : (Nat → Int32)) (H : Heap) (locs : List Loc) (ls : Array Slot), L_learn_71 g c1_g23 c1_F22 k105 n71 y71_1 d71_F49 = some (r, c_g1, c_g23, c_g48, c_g51, c_F22, c_F49, c_F50) → va_P (dC, dI) vwCl (mW h0 kB kI kZ q (upd (upd g 1 c1_g1) 23 c1_g23) (upF (upF F 22 c1_F22) 49 d71_F49)) H → va_D A (mW h0 kB kI kZ q (upd (upd g 1 c1_g1) 23 c1_g23) (upF (upF F 22 c1_F22) 49 d71_F49)) → va_S A s.heap H locs → lv_has ls 2 [(0, .ref h0), (1, .int y71_1)] → W p l e ({ frames := 4, cells := 0, slots := 0, locals := 106 } : Room) s m args below meth c H locs 0 0 Q (F0 m 71 ls []) := by
          intro n71
          induction n71 with
          | zero => intro y71_1 d71_F49 H locs ls hr; exact nomatch (show none = some (r, c_g1, c_g23, c_g48, c_g51, c_F22, c_F49, c_F50) from hr)
          | succ n71 ih71 =>
            intro y71_1 d71_F49 H locs ls hr hP hD hS hl
            replace hr : B_learn_71 g c1_g23 c1_F22 k105 (L_learn_71 g c1_g23 c1_F22 k105 n71) y71_1 d71_F49 = some (r, c_g1, c_g23, c_g48, c_g51, c_F22, c_F49, c_F50) := hr
            unfold B_learn_71 at hr
            refine lv_iload_n hx hb dX12_learn_71 rfl (lv_at hl 1 rfl) ?_
            refine lv_aload_n hx hb dX12_learn_72 rfl (lv_at hl 0 rfl) ?_
            refine va_get (D := (dC, dI)) (ci := 12) (v := .int c1_g23) (C := RX12) (T := TX12) (N := 71) hx hb hts inX12 hown hK hP 0 rfl rfl 23 (by decide) (hts (.fieldLink RX12 244 "SpellTurnerModel" "letters" "I") im_49) (fun _ h9 => h9) rfl dX12_learn_73 ?_
            refine lv_icmp_ge (tgt := 105) hx hb dX12_learn_76 (by decide) (fun c76 => ?_) (fun c76 => ?_)
            · replace hr := iteT c76 hr
              exact Jk105 d71_F49 H _ ls hr hP hD hS (lv_sub hl [0] rfl)
            · replace hr := iteF c76 hr
              refine lv_aload_n hx hb dX12_learn_79 rfl (lv_at hl 0 rfl) ?_
              refine va_get (D := (dC, dI)) (ci := 12) (v := .ref (q 49)) (C := RX12) (T := TX12) (N := 71) hx hb hts inX12 hown hK hP 0 rfl rfl 49 (by decide) (hts (.fieldLink RX12 106 "SpellTurnerModel" "bookText" "[B") im_87) (fun _ h9 => h9) rfl dX12_learn_80 ?_
              refine lv_bipush (v := 24) hx hb dX12_learn_83 (by decide +kernel) ?_
              refine lv_aload_n hx hb dX12_learn_85 rfl (lv_at hl 0 rfl) ?_
              refine va_get (D := (dC, dI)) (ci := 12) (v := .int (g 48)) (C := RX12) (T := TX12) (N := 71) hx hb hts inX12 hown hK hP 0 rfl rfl 48 (by decide) (hts (.fieldLink RX12 312 "SpellTurnerModel" "words" "I") im_85) (fun _ h9 => h9) rfl dX12_learn_86 ?_
              refine lv_imul hx hb dX12_learn_89 ?_
              refine lv_iload_n hx hb dX12_learn_90 rfl (lv_at hl 1 rfl) ?_
              refine lv_iadd hx hb dX12_learn_91 ?_
              refine lv_aload_n hx hb dX12_learn_92 rfl (lv_at hl 0 rfl) ?_
              refine va_get (D := (dC, dI)) (ci := 12) (v := .ref (q 22)) (C := RX12) (T := TX12) (N := 71) hx hb hts inX12 hown hK hP 0 rfl rfl 22 (by decide) (hts (.fieldLink RX12 55 "SpellTurnerModel" "word" "[B") im_50) (fun _ h9 => h9) rfl dX12_learn_93 ?_
              refine lv_iload_n hx hb dX12_learn_96 rfl (lv_at hl 1 rfl) ?_
              replace hr := iteS hr
              obtain ⟨hi97, hr⟩ := hr
              refine va_bald (f := c1_F22) hx hb hK hP 14 0 rfl rfl (inbV hi97) dX12_learn_97 ?_
              replace hr := iteS hr
              obtain ⟨hi98, hr⟩ := hr
              refine va_bast (f := d71_F49) hx hb hK hP hD hS 31 0 rfl rfl (inbV hi98) dX12_learn_98 (fun H locs hP hD hS => ?_)
              obtain ⟨w98, ew98, hP, hD⟩ : ∃ w98 : Nat → Int32, w98 = (upd d71_F49 (Int32.toNatClampNeg ((24 * (g 48)) + y71_1)) (vp_nar .byte (c1_F22 (Int32.toNatClampNeg y71_1)))) ∧ va_P (dC, dI) vwCl (mW h0 kB kI kZ q (upd (upd g 1 c1_g1) 23 c1_g23) (upF (upF F 22 c1_F22) 49 w98)) H ∧ va_D A (mW h0 kB kI kZ q (upd (upd g 1 c1_g1) 23 c1_g23) (upF (upF F 22 c1_F22) 49 w98)) := ⟨(upd d71_F49 (Int32.toNatClampNeg ((24 * (g 48)) + y71_1)) (vp_nar .byte (c1_F22 (Int32.toNatClampNeg y71_1)))), rfl, by first | exact sP_F49 hP upF_same | exact sP_F49 hP rfl | exact hP, by first | exact sD_F49 hD upF_same | exact sD_F49 hD rfl | exact hD⟩
              replace hr := vlS hr w98 ew98
              clear ew98
              refine lv_iinc (v := (y71_1 + 1)) (lv' := [(1, .int (y71_1 + 1)), (0, .ref h0)]) hx hb dX12_learn_99 hl (k := 1) rfl rfl (by decide) rfl (fun ls hl => ?_)
              refine lv_goto (tgt := 71) hx hb dX12_learn_102 (by decide) ?_
              exact ih71 (y71_1 + 1) w98 H _ ls hr hP hD hS (lv_sub hl [1, 0] rfl)
        first | exact lp71 NN 0 (F 49) H _ ls hr (sP_eq (mW_cg (by repeat (first | with_reducible rfl | with_reducible refine upd_cg ?_ | refine Eq.trans ?_ (upd_id rfl))) (by repeat (first | with_reducible rfl | with_reducible refine upF_cg ?_ | refine Eq.trans ?_ (upF_id rfl)))) hP) (sD_eq (mW_cg (by repeat (first | with_reducible rfl | with_reducible refine upd_cg ?_ | refine Eq.trans ?_ (upd_id rfl))) (by repeat (first | with_reducible rfl | with_reducible refine upF_cg ?_ | refine Eq.trans ?_ (upF_id rfl)))) hD) hS (lv_sub hl [1, 0] rfl) | exact lp71 NN 0 (F 49) H _ ls hr hP hD hS (lv_sub hl [1, 0] rfl)
      · replace hr := iteT c63 hr
        refine lv_bipush (v := (-3)) hx hb dX12_learn_66 (by decide +kernel) ?_
        first | exact K 68 ls _ _ _ _ _ _ _ _ H _ hr dX12_learn_68 (sP_eq (mW_cg (by repeat (first | with_reducible rfl | with_reducible refine upd_cg ?_ | refine Eq.trans ?_ (upd_id rfl))) (by repeat (first | with_reducible rfl | with_reducible refine upF_cg ?_ | refine Eq.trans ?_ (upF_id rfl)))) hP) (sD_eq (mW_cg (by repeat (first | with_reducible rfl | with_reducible refine upd_cg ?_ | refine Eq.trans ?_ (upd_id rfl))) (by repeat (first | with_reducible rfl | with_reducible refine upF_cg ?_ | refine Eq.trans ?_ (upF_id rfl)))) hD) hS | exact K 68 ls _ _ _ _ _ _ _ _ H _ hr dX12_learn_68 hP hD hS
    have lp12 : ∀ (n12 : Nat) (y12_1 : Int32) (H : Heap) (locs : List Loc) (ls : Array Slot), L_learn_12 g F c1_g1 c1_g23 c1_F22 k57 n12 y12_1 = some (r, c_g1, c_g23, c_g48, c_g51, c_F22, c_F49, c_F50) → va_P (dC, dI) vwCl (mW h0 kB kI kZ q (upd (upd g 1 c1_g1) 23 c1_g23) (upF F 22 c1_F22)) H → va_D A (mW h0 kB kI kZ q (upd (upd g 1 c1_g1) 23 c1_g23) (upF F 22 c1_F22)) → va_S A s.heap H locs → lv_has ls 2 [(0, .ref h0), (1, .int y12_1)] → W p l e ({ frames := 4, cells := 0, slots := 0, locals := 106 } : Room) s m args below meth c H locs 0 0 Q (F0 m 12 ls []) := by
      intro n12
      induction n12 with
      | zero => intro y12_1 H locs ls hr; exact nomatch (show none = some (r, c_g1, c_g23, c_g48, c_g51, c_F22, c_F49, c_F50) from hr)
      | succ n12 ih12 =>
        intro y12_1 H locs ls hr hP hD hS hl
        replace hr : B_learn_12 g F c1_g1 c1_g23 c1_F22 k57 (L_learn_12 g F c1_g1 c1_g23 c1_F22 k57 n12) y12_1 = some (r, c_g1, c_g23, c_g48, c_g51, c_F22, c_F49, c_F50) := hr
        unfold B_learn_12 at hr
        refine lv_iload_n hx hb dX12_learn_12 rfl (lv_at hl 1 rfl) ?_
        refine lv_aload_n hx hb dX12_learn_13 rfl (lv_at hl 0 rfl) ?_
        refine va_get (D := (dC, dI)) (ci := 12) (v := .int (g 48)) (C := RX12) (T := TX12) (N := 71) hx hb hts inX12 hown hK hP 0 rfl rfl 48 (by decide) (hts (.fieldLink RX12 312 "SpellTurnerModel" "words" "I") im_85) (fun _ h9 => h9) rfl dX12_learn_14 ?_
        refine lv_icmp_ge (tgt := 57) hx hb dX12_learn_17 (by decide) (fun c17 => ?_) (fun c17 => ?_)
        · replace hr := iteT c17 hr
          exact Jk57 H _ ls hr hP hD hS (lv_sub hl [0] rfl)
        · replace hr := iteF c17 hr
          refine lv_aload_n hx hb dX12_learn_20 rfl (lv_at hl 0 rfl) ?_
          refine va_get (D := (dC, dI)) (ci := 12) (v := .ref (q 49)) (C := RX12) (T := TX12) (N := 71) hx hb hts inX12 hown hK hP 0 rfl rfl 49 (by decide) (hts (.fieldLink RX12 106 "SpellTurnerModel" "bookText" "[B") im_87) (fun _ h9 => h9) rfl dX12_learn_21 ?_
          refine lv_bipush (v := 24) hx hb dX12_learn_24 (by decide +kernel) ?_
          refine lv_iload_n hx hb dX12_learn_26 rfl (lv_at hl 1 rfl) ?_
          refine lv_imul hx hb dX12_learn_27 ?_
          refine lv_aload_n hx hb dX12_learn_28 rfl (lv_at hl 0 rfl) ?_
          refine va_get (D := (dC, dI)) (ci := 12) (v := .ref (q 50)) (C := RX12) (T := TX12) (N := 71) hx hb hts inX12 hown hK hP 0 rfl rfl 50 (by decide) (hts (.fieldLink RX12 109 "SpellTurnerModel" "bookSize" "[I") im_86) (fun _ h9 => h9) rfl dX12_learn_29 ?_
          refine lv_iload_n hx hb dX12_learn_32 rfl (lv_at hl 1 rfl) ?_
          replace hr := iteS hr
          obtain ⟨hi33, hr⟩ := hr
          refine va_iald (f := (F 50)) hx hb hK hP 32 1 rfl rfl (inbV hi33) dX12_learn_33 ?_
          refine lv_aload_n hx hb dX12_learn_34 rfl (lv_at hl 0 rfl) ?_
          refine va_get (D := (dC, dI)) (ci := 12) (v := .ref (q 22)) (C := RX12) (T := TX12) (N := 71) hx hb hts inX12 hown hK hP 0 rfl rfl 22 (by decide) (hts (.fieldLink RX12 55 "SpellTurnerModel" "word" "[B") im_50) (fun _ h9 => h9) rfl dX12_learn_35 ?_
          refine lv_iconst (v := 0) hx hb dX12_learn_38 (by decide +kernel) ?_
          refine lv_aload_n hx hb dX12_learn_39 rfl (lv_at hl 0 rfl) ?_
          refine va_get (D := (dC, dI)) (ci := 12) (v := .int c1_g23) (C := RX12) (T := TX12) (N := 71) hx hb hts inX12 hown hK hP 0 rfl rfl 23 (by decide) (hts (.fieldLink RX12 244 "SpellTurnerModel" "letters" "I") im_49) (fun _ h9 => h9) rfl dX12_learn_40 ?_
          replace hr := b1S hr
          obtain ⟨r43z, hc43, hr⟩ := hr
          have hFc := fr_all hD hS hA
          refine va_calli (va_runS (As := [.ref (q 49), .int (24 * y12_1), .int ((F 50) (Int32.toNatClampNeg y12_1)), .ref (q 22), .int 0, .int c1_g23]) (rest := []) ⟨hx, hb, hml, hown, hts⟩ (m_sameBytes_49_22 l dC dI H.size h0 kB kI kZ q (upd (upd g 1 c1_g1) 23 c1_g23) (upF F 22 c1_F22) (24 * y12_1) ((F 50) (Int32.toNatClampNeg y12_1)) 0 c1_g23 r43z hc43) (va_cwS 6 hts gw_X12_sameBytes_273 rfl rfl rfl (by decide +kernel) ⟨Nat.le_of_ble_eq_true rfl, Nat.le_of_ble_eq_true rfl⟩) ⟨fun a U g mk q => by obtain ⟨q0, q1, qP, qK, qD⟩ := q; exact ⟨q0, q1, qP, va_K.moved (u := U) (U := U.calling g mk a) (Vm.Alike.refl U.vm) qK, qD⟩, fun U hU hW => ⟨rfl, by rw [hU], by rw [hU]; exact hP, va_K.moved hW.alike hK, hD.weaken (fun _ _ _ _ => trivial)⟩⟩ rfl rfl hl.1 rfl (lv_room (Nat.le_of_ble_eq_true rfl)) dX12_learn_43 ⟨Nat.le_of_ble_eq_true rfl, Nat.le_of_ble_eq_true rfl⟩) hS (fun q _ h => hFc q h) hFc (fun r43 u t H1 locs ht hvm hw hB hz1 hk1 hS => ?_)
          replace hw : r43 = r43z := hw
          subst hw
          obtain ⟨hP1, hK1, hD1⟩ := hB
          rw [ht] at hP1
          obtain ⟨hP, hD⟩ := jn_all (w1 := (mW h0 kB kI kZ q (upd (upd g 1 c1_g1) 23 c1_g23) (upF F 22 c1_F22))) hFc hP1 hD1
          clear hFc hP1 hK1 hD1 hk1 hz1 ht hvm
          generalize H1 = H at hP hS ⊢
          have hP : va_P (dC, dI) vwCl (mW h0 kB kI kZ q (upd (upd g 1 c1_g1) 23 c1_g23) (upF F 22 c1_F22)) H := hP
          have hD : va_D A (mW h0 kB kI kZ q (upd (upd g 1 c1_g1) 23 c1_g23) (upF F 22 c1_F22)) := hD
          refine lv_if_eq (tgt := 51) hx hb dX12_learn_46 (by decide) (fun c46 => ?_) (fun c46 => ?_)
          · replace hr := iteT c46 hr
            refine lv_iinc (v := (y12_1 + 1)) (lv' := [(1, .int (y12_1 + 1)), (0, .ref h0)]) hx hb dX12_learn_51 hl (k := 1) rfl rfl (by decide) rfl (fun ls hl => ?_)
            refine lv_goto (tgt := 12) hx hb dX12_learn_54 (by decide) ?_
            exact ih12 (y12_1 + 1) H _ ls hr hP hD hS (lv_sub hl [1, 0] rfl)
          · replace hr := iteF c46 hr
            refine lv_iload_n hx hb dX12_learn_49 rfl (lv_at hl 1 rfl) ?_
            first | exact K 50 ls _ _ _ _ _ _ _ _ H _ hr dX12_learn_50 (sP_eq (mW_cg (by repeat (first | with_reducible rfl | with_reducible refine upd_cg ?_ | refine Eq.trans ?_ (upd_id rfl))) (by repeat (first | with_reducible rfl | with_reducible refine upF_cg ?_ | refine Eq.trans ?_ (upF_id rfl)))) hP) (sD_eq (mW_cg (by repeat (first | with_reducible rfl | with_reducible refine upd_cg ?_ | refine Eq.trans ?_ (upd_id rfl))) (by repeat (first | with_reducible rfl | with_reducible refine upF_cg ?_ | refine Eq.trans ?_ (upF_id rfl)))) hD) hS | exact K 50 ls _ _ _ _ _ _ _ _ H _ hr dX12_learn_50 hP hD hS
    exact lp12 NN 0 H _ ls hr hP hD hS (lv_sub hl [1, 0] rfl)
  · replace hr := iteT c4 hr
    refine lv_bipush (v := (-2)) hx hb dX12_learn_7 (by decide +kernel) ?_
    first | exact K 9 ls _ _ _ _ _ _ _ _ H _ hr dX12_learn_9 (sP_eq (mW_cg (by repeat (first | with_reducible rfl | with_reducible refine upd_cg ?_ | refine Eq.trans ?_ (upd_id rfl))) (by repeat (first | with_reducible rfl | with_reducible refine upF_cg ?_ | refine Eq.trans ?_ (upF_id rfl)))) hP) (sD_eq (mW_cg (by repeat (first | with_reducible rfl | with_reducible refine upd_cg ?_ | refine Eq.trans ?_ (upd_id rfl))) (by repeat (first | with_reducible rfl | with_reducible refine upF_cg ?_ | refine Eq.trans ?_ (upF_id rfl)))) hD) hS | exact K 9 ls _ _ _ _ _ _ _ _ H _ hr dX12_learn_9 hP hD hS
set_option maxHeartbeats 4000000 in
set_option maxRecDepth 100000 in
theorem m_learn (l : Launch) (dC : Nat → ClassId) (dI : Nat → Nat → Nat) (sz : Nat) (h0 : Nat) (kB kI kZ : ClassId) (q : Nat → Nat) (g : Nat → Int32) (F : Nat → Nat → Int32) (r : Int32) (c_g1 : Int32) (c_g23 : Int32) (c_g48 : Int32) (c_g51 : Int32) (c_F22 : (Nat → Int32)) (c_F49 : (Nat → Int32)) (c_F50 : (Nat → Int32)) (hr : f_learn g F = some (r, c_g1, c_g23, c_g48, c_g51, c_F22, c_F49, c_F50)) : Met l yX12_learn vmX12_learn ({ frames := 4, cells := 0, slots := 0, locals := 106 } : Room) (va_Pc [.ref h0] (fun U => U.heap.size = sz ∧ va_P (dC, dI) vwCl (mW h0 kB kI kZ q g F) U.heap ∧ va_K (dC, dI) vwCl (mT kB kI kZ) U ∧ va_D (fun _ => True) (mW h0 kB kI kZ q g F))) (va_Qi (fun (rz : Int32) (_ : Unit) => rz = r) (fun _ t => va_P (dC, dI) vwCl (mW h0 kB kI kZ q (upd (upd (upd (upd g 1 c_g1) 23 c_g23) 48 c_g48) 51 c_g51) (upF (upF (upF F 22 c_F22) 49 c_F49) 50 c_F50)) t.heap ∧ va_K (dC, dI) vwCl (mT kB kI kZ) t ∧ va_D (va_A (mW h0 kB kI kZ q g F) sz) (mW h0 kB kI kZ q (upd (upd (upd (upd g 1 c_g1) 23 c_g23) 48 c_g48) 51 c_g51) (upF (upF (upF F 22 c_F22) 49 c_F49) 50 c_F50))) (va_A (mW h0 kB kI kZ q g F) sz)) 0 0 (va_A (mW h0 kB kI kZ q g F) sz) := by
  refine Met.ofW (cc := cX12_learn) (maxL := 2) (ret := (some .int)) (by decide) rfl ?_
  intro p e s m args below meth c s₁ B hml hv
  obtain ⟨rfl, hsz, hP, hK, hD0⟩ := hv
  have hx := B.exec
  have hb := B.bytes
  have hrt := B.returns
  have hts := atoms_spec (ws := vmX12_learn) B.pre
  have hown : s.vm.findClass RX12 = some m.cls := findClass_of_methodNamed B.named
  subst hsz
  have hD := hD0.self (sz := s.heap.size)
  generalize hAe : va_A (mW h0 kB kI kZ q g F) s.heap.size = A at hD ⊢
  have hA : ∀ q : Nat, s.heap.size ≤ q → A q := fun q h => by rw [← hAe]; exact Or.inr h
  have hS : va_S A s.heap s.heap [] := va_S.rf
  have hl := lv_entry ([.ref h0]) (n := 2) (Nat.le_of_ble_eq_true rfl)
  rw [lg_entry_eq]
  generalize (lg_sl ([.ref h0]) ++ List.replicate (2 - (lg_sl ([.ref h0])).length) Slot.unset).toArray = ls at hl ⊢
  exact bm_learn r c_g1 c_g23 c_g48 c_g51 c_F22 c_F49 c_F50 hr hx hb hml hown hts hA hK hP hD hS hl (fun pc ls rz c_g1z c_g23z c_g48z c_g51z c_F22z c_F49z c_F50z H locs he hd hP hD hS => by cases he; exact W.iret (v := r) hx hb hrt (fun t ht hW => ⟨⟨r, (), rfl, rfl, by rw [ht]; exact hP, va_K.moved hW.alike hK, hD⟩, hS.F ht⟩) hS.2.2 hd)
set_option maxHeartbeats 4000000 in
set_option maxRecDepth 100000 in
theorem bm_onward {p : Program} {l : Launch} {e : Env} {s : State} {m : MethodId} {args : Array Value} {below : List Frame} {meth : Method} {c : Code} {Q : State → Prop} {A : Nat → Prop} {dC : Nat → ClassId} {dI : Nat → Nat → Nat} {h0 : Nat} {kB kI kZ : ClassId} {q : Nat → Nat} {g : Nat → Int32} {F : Nat → Nat → Int32} {H : Heap} {locs : List Loc} {ls : Array Slot} (p0 : Int32) (p1 : Int32) (p2 : Int32) (r : Int32) (hr : f_onward g F p0 p1 p2 = some r) (hx : p.tables.exec = Jvm.exec) (hb : c.code = cX12_onward) (hml : c.maxLocals = 7) (hown : s.vm.findClass RX12 = some m.cls) (hts : ∀ w ∈ vmX12_onward, w.before args s = true) (hA : ∀ q : Nat, s.heap.size ≤ q → A q) (hK : va_K (dC, dI) vwCl (mT kB kI kZ) s) (hP : va_P (dC, dI) vwCl (mW h0 kB kI kZ q g F) H) (hD : va_D A (mW h0 kB kI kZ q g F)) (hS : va_S A s.heap H locs) (hl : lv_has ls 7 [(0, .ref h0), (1, .int p0), (2, .int p1), (3, .int p2)])
    (K : ∀ (pc : Nat) (ls : Array Slot) (rz : Int32) (H : Heap) (locs : List Loc), some rz = some r → decode cX12_onward pc = .ok (.ireturn, 1) → va_P (dC, dI) vwCl (mW h0 kB kI kZ q g F) H → va_D A (mW h0 kB kI kZ q g F) → va_S A s.heap H locs → W p l e ({ frames := 2, cells := 0, slots := 0, locals := 60 } : Room) s m args below meth c H locs 0 0 Q (F0 m pc ls [.int rz])) : W p l e ({ frames := 2, cells := 0, slots := 0, locals := 60 } : Room) s m args below meth c H locs 0 0 Q (F0 m 0 ls []) := by
  unfold f_onward at hr
  refine lv_ldcw (own := RX12) (v := 2147483647) hx hb hown (hts (.constant RX12 379 (2147483647)) im_128) dX12_onward_0 ?_
  refine lv_istore (lv' := [(4, .int 2147483647), (0, .ref h0), (1, .int p0), (2, .int p1), (3, .int p2)]) hx hb dX12_onward_3 hl (by decide) rfl (fun ls hl => ?_)
  refine lv_iconst (v := 0) hx hb dX12_onward_5 (by decide +kernel) ?_
  refine lv_istore (lv' := [(5, .int 0), (4, .int 2147483647), (0, .ref h0), (1, .int p0), (2, .int p1), (3, .int p2)]) hx hb dX12_onward_6 hl (by decide) rfl (fun ls hl => ?_)
  have lp8 : ∀ (n8 : Nat) (y8_4 : Int32) (y8_5 : Int32) (H : Heap) (locs : List Loc) (ls : Array Slot), L_onward_8 g F p0 p1 p2 n8 y8_4 y8_5 = some r → va_P (dC, dI) vwCl (mW h0 kB kI kZ q g F) H → va_D A (mW h0 kB kI kZ q g F) → va_S A s.heap H locs → lv_has ls 7 [(0, .ref h0), (1, .int p0), (2, .int p1), (3, .int p2), (4, .int y8_4), (5, .int y8_5)] → W p l e ({ frames := 2, cells := 0, slots := 0, locals := 60 } : Room) s m args below meth c H locs 0 0 Q (F0 m 8 ls []) := by
    intro n8
    induction n8 with
    | zero => intro y8_4 y8_5 H locs ls hr; exact nomatch (show none = some r from hr)
    | succ n8 ih8 =>
      intro y8_4 y8_5 H locs ls hr hP hD hS hl
      replace hr : B_onward_8 g F p0 p1 p2 (L_onward_8 g F p0 p1 p2 n8) y8_4 y8_5 = some r := hr
      unfold B_onward_8 at hr
      refine lv_iload hx hb dX12_onward_8 (lv_at hl 5 rfl) ?_
      refine lv_aload_n hx hb dX12_onward_10 rfl (lv_at hl 0 rfl) ?_
      refine va_get (D := (dC, dI)) (ci := 12) (v := .int (g 9)) (C := RX12) (T := TX12) (N := 71) hx hb hts inX12 hown hK hP 0 rfl rfl 9 (by decide) (hts (.fieldLink RX12 222 "SpellTurnerModel" "reforms" "I") im_40) (fun _ h9 => h9) rfl dX12_onward_11 ?_
      refine lv_icmp_gt (tgt := 70) hx hb dX12_onward_14 (by decide) (fun c14 => ?_) (fun c14 => ?_)
      · replace hr := iteT c14 hr
        refine lv_iload hx hb dX12_onward_70 (lv_at hl 4 rfl) ?_
        exact K 72 ls _ H _ hr dX12_onward_72 hP hD hS
      · replace hr := iteF c14 hr
        refine lv_aload_n hx hb dX12_onward_17 rfl (lv_at hl 0 rfl) ?_
        refine va_get (D := (dC, dI)) (ci := 12) (v := .ref (q 68)) (C := RX12) (T := TX12) (N := 71) hx hb hts inX12 hown hK hP 0 rfl rfl 68 (by decide) (hts (.fieldLink RX12 146 "SpellTurnerModel" "sum" "[I") im_129) (fun _ h9 => h9) rfl dX12_onward_18 ?_
        refine lv_bipush (v := 7) hx hb dX12_onward_21 (by decide +kernel) ?_
        refine lv_iload_n hx hb dX12_onward_23 rfl (lv_at hl 1 rfl) ?_
        refine lv_imul hx hb dX12_onward_24 ?_
        refine lv_iload hx hb dX12_onward_25 (lv_at hl 5 rfl) ?_
        refine lv_iadd hx hb dX12_onward_27 ?_
        replace hr := iteS hr
        obtain ⟨hi28, hr⟩ := hr
        refine va_iald (f := (F 68)) hx hb hK hP 44 1 rfl rfl (inbV hi28) dX12_onward_28 ?_
        refine lv_iload_n hx hb dX12_onward_29 rfl (lv_at hl 2 rfl) ?_
        refine lv_iconst (v := (-1)) hx hb dX12_onward_30 (by decide +kernel) ?_
        replace hr := jnS hr
        obtain ⟨j45, hj45, hr⟩ := hr
        have Jj45 : ∀ (t45_0 : Int32) (H : Heap) (locs : List Loc) (ls : Array Slot), j45 t45_0 = some r → va_P (dC, dI) vwCl (mW h0 kB kI kZ q g F) H → va_D A (mW h0 kB kI kZ q g F) → va_S A s.heap H locs → lv_has ls 7 [(0, .ref h0), (1, .int p0), (2, .int p1), (3, .int p2), (4, .int y8_4), (5, .int y8_5)] → W p l e ({ frames := 2, cells := 0, slots := 0, locals := 60 } : Room) s m args below meth c H locs 0 0 Q (F0 m 45 ls [.int t45_0, .int ((F 68) (Int32.toNatClampNeg ((7 * p0) + y8_5)))]) := by
          intro t45_0 H locs ls hr hP hD hS hl
          rw [hj45] at hr
          refine lv_iadd hx hb dX12_onward_45 ?_
          refine lv_topi (fun x46 ex46 => ?_)
          replace hr := vlS hr x46 ex46
          clear ex46
          refine lv_istore (lv' := [(6, .int x46), (0, .ref h0), (1, .int p0), (2, .int p1), (3, .int p2), (4, .int y8_4), (5, .int y8_5)]) hx hb dX12_onward_46 hl (by decide) rfl (fun ls hl => ?_)
          refine lv_iload hx hb dX12_onward_48 (lv_at hl 0 rfl) ?_
          refine lv_iload hx hb dX12_onward_50 (lv_at hl 5 rfl) ?_
          replace hr := jnS hr
          obtain ⟨j62, hj62, hr⟩ := hr
          have Jj62 : ∀ (t62_0 : Int32) (H : Heap) (locs : List Loc) (ls : Array Slot), j62 t62_0 = some r → va_P (dC, dI) vwCl (mW h0 kB kI kZ q g F) H → va_D A (mW h0 kB kI kZ q g F) → va_S A s.heap H locs → lv_has ls 7 [(0, .ref h0), (1, .int p0), (2, .int p1), (3, .int p2), (5, .int y8_5)] → W p l e ({ frames := 2, cells := 0, slots := 0, locals := 60 } : Room) s m args below meth c H locs 0 0 Q (F0 m 62 ls [.int t62_0]) := by
            intro t62_0 H locs ls hr hP hD hS hl
            rw [hj62] at hr
            refine lv_istore (lv' := [(4, .int t62_0), (0, .ref h0), (1, .int p0), (2, .int p1), (3, .int p2), (5, .int y8_5)]) hx hb dX12_onward_62 hl (by decide) rfl (fun ls hl => ?_)
            refine lv_iinc (v := (y8_5 + 1)) (lv' := [(5, .int (y8_5 + 1)), (4, .int t62_0), (0, .ref h0), (1, .int p0), (2, .int p1), (3, .int p2)]) hx hb dX12_onward_64 hl (k := 5) rfl rfl (by decide) rfl (fun ls hl => ?_)
            refine lv_goto (tgt := 8) hx hb dX12_onward_67 (by decide) ?_
            exact ih8 t62_0 (y8_5 + 1) H _ ls hr hP hD hS (lv_sub hl [2, 3, 4, 5, 1, 0] rfl)
          refine lv_icmp_ge (tgt := 60) hx hb dX12_onward_52 (by decide) (fun c52 => ?_) (fun c52 => ?_)
          · replace hr := iteT c52 hr
            refine lv_iload hx hb dX12_onward_60 (lv_at hl 5 rfl) ?_
            exact Jj62 y8_4 H _ ls hr hP hD hS (lv_sub hl [1, 2, 3, 4, 6] rfl)
          · replace hr := iteF c52 hr
            refine lv_iload hx hb dX12_onward_55 (lv_at hl 0 rfl) ?_
            refine lv_goto (tgt := 62) hx hb dX12_onward_57 (by decide) ?_
            exact Jj62 x46 H _ ls hr hP hD hS (lv_sub hl [1, 2, 3, 4, 6] rfl)
        replace hr := jnS hr
        obtain ⟨j40, hj40, hr⟩ := hr
        have Jj40 : ∀ (H : Heap) (locs : List Loc) (ls : Array Slot), j40 () = some r → va_P (dC, dI) vwCl (mW h0 kB kI kZ q g F) H → va_D A (mW h0 kB kI kZ q g F) → va_S A s.heap H locs → lv_has ls 7 [(0, .ref h0), (1, .int p0), (2, .int p1), (3, .int p2), (4, .int y8_4), (5, .int y8_5)] → W p l e ({ frames := 2, cells := 0, slots := 0, locals := 60 } : Room) s m args below meth c H locs 0 0 Q (F0 m 40 ls [.int ((F 68) (Int32.toNatClampNeg ((7 * p0) + y8_5)))]) := by
          intro H locs ls hr hP hD hS hl
          rw [hj40] at hr
          refine lv_iconst (v := 0) hx hb dX12_onward_40 (by decide +kernel) ?_
          refine lv_goto (tgt := 45) hx hb dX12_onward_41 (by decide) ?_
          exact Jj45 0 H _ ls hr hP hD hS (lv_sub hl [0, 1, 2, 3, 4, 5] rfl)
        refine lv_icmp_eq (tgt := 40) hx hb dX12_onward_31 (by decide) (fun c31 => ?_) (fun c31 => ?_)
        · replace hr := iteT c31 hr
          exact Jj40 H _ ls hr hP hD hS (lv_sub hl [0, 1, 2, 3, 4, 5] rfl)
        · replace hr := iteF c31 hr
          refine lv_iload_n hx hb dX12_onward_34 rfl (lv_at hl 2 rfl) ?_
          refine lv_iload hx hb dX12_onward_35 (lv_at hl 5 rfl) ?_
          refine lv_icmp_ne (tgt := 44) hx hb dX12_onward_37 (by decide) (fun c37 => ?_) (fun c37 => ?_)
          · replace hr := iteF c37 hr
            refine lv_iload_n hx hb dX12_onward_44 rfl (lv_at hl 3 rfl) ?_
            exact Jj45 p2 H _ ls hr hP hD hS (lv_sub hl [0, 1, 2, 3, 4, 5] rfl)
          · replace hr := iteT c37 hr
            exact Jj40 H _ ls hr hP hD hS (lv_sub hl [0, 1, 2, 3, 4, 5] rfl)
  exact lp8 NN 2147483647 0 H _ ls hr hP hD hS (lv_sub hl [2, 3, 4, 5, 1, 0] rfl)
set_option maxHeartbeats 4000000 in
set_option maxRecDepth 100000 in
theorem m_onward (l : Launch) (dC : Nat → ClassId) (dI : Nat → Nat → Nat) (sz : Nat) (h0 : Nat) (kB kI kZ : ClassId) (q : Nat → Nat) (g : Nat → Int32) (F : Nat → Nat → Int32) (p0 : Int32) (p1 : Int32) (p2 : Int32) (r : Int32) (hr : f_onward g F p0 p1 p2 = some r) : Met l yX12_onward vmX12_onward ({ frames := 2, cells := 0, slots := 0, locals := 60 } : Room) (va_Pc [.ref h0, .int p0, .int p1, .int p2] (fun U => U.heap.size = sz ∧ va_P (dC, dI) vwCl (mW h0 kB kI kZ q g F) U.heap ∧ va_K (dC, dI) vwCl (mT kB kI kZ) U ∧ va_D (fun _ => True) (mW h0 kB kI kZ q g F))) (va_Qi (fun (rz : Int32) (_ : Unit) => rz = r) (fun _ t => va_P (dC, dI) vwCl (mW h0 kB kI kZ q g F) t.heap ∧ va_K (dC, dI) vwCl (mT kB kI kZ) t ∧ va_D (va_A (mW h0 kB kI kZ q g F) sz) (mW h0 kB kI kZ q g F)) (va_A (mW h0 kB kI kZ q g F) sz)) 0 0 (va_A (mW h0 kB kI kZ q g F) sz) := by
  refine Met.ofW (cc := cX12_onward) (maxL := 7) (ret := (some .int)) (by decide) rfl ?_
  intro p e s m args below meth c s₁ B hml hv
  obtain ⟨rfl, hsz, hP, hK, hD0⟩ := hv
  have hx := B.exec
  have hb := B.bytes
  have hrt := B.returns
  have hts := atoms_spec (ws := vmX12_onward) B.pre
  have hown : s.vm.findClass RX12 = some m.cls := findClass_of_methodNamed B.named
  subst hsz
  have hD := hD0.self (sz := s.heap.size)
  generalize hAe : va_A (mW h0 kB kI kZ q g F) s.heap.size = A at hD ⊢
  have hA : ∀ q : Nat, s.heap.size ≤ q → A q := fun q h => by rw [← hAe]; exact Or.inr h
  have hS : va_S A s.heap s.heap [] := va_S.rf
  have hl := lv_entry ([.ref h0, .int p0, .int p1, .int p2]) (n := 7) (Nat.le_of_ble_eq_true rfl)
  rw [lg_entry_eq]
  generalize (lg_sl ([.ref h0, .int p0, .int p1, .int p2]) ++ List.replicate (7 - (lg_sl ([.ref h0, .int p0, .int p1, .int p2])).length) Slot.unset).toArray = ls at hl ⊢
  exact bm_onward p0 p1 p2 r hr hx hb hml hown hts hA hK hP hD hS hl (fun pc ls rz H locs he hd hP hD hS => by cases he; exact W.iret (v := r) hx hb hrt (fun t ht hW => ⟨⟨r, (), rfl, rfl, by rw [ht]; exact hP, va_K.moved hW.alike hK, hD⟩, hS.F ht⟩) hS.2.2 hd)
set_option maxHeartbeats 4000000 in
set_option maxRecDepth 100000 in
theorem bm_sameBytes_52_0 {p : Program} {l : Launch} {e : Env} {s : State} {m : MethodId} {args : Array Value} {below : List Frame} {meth : Method} {c : Code} {Q : State → Prop} {A : Nat → Prop} {dC : Nat → ClassId} {dI : Nat → Nat → Nat} {h0 : Nat} {kB kI kZ : ClassId} {q : Nat → Nat} {g : Nat → Int32} {F : Nat → Nat → Int32} {H : Heap} {locs : List Loc} {ls : Array Slot} (p1 : Int32) (p2 : Int32) (p4 : Int32) (p5 : Int32) (r : Int32) (hr : f_sameBytes (F 52) 201600 p1 p2 (F 0) 2000 p4 p5 = some r) (hx : p.tables.exec = Jvm.exec) (hb : c.code = cX12_sameBytes) (hml : c.maxLocals = 7) (hown : s.vm.findClass RX12 = some m.cls) (hts : ∀ w ∈ vmX12_sameBytes, w.before args s = true) (hA : ∀ q : Nat, s.heap.size ≤ q → A q) (hK : va_K (dC, dI) vwCl (mT kB kI kZ) s) (hP : va_P (dC, dI) vwCl (mW h0 kB kI kZ q g F) H) (hD : va_D A (mW h0 kB kI kZ q g F)) (hS : va_S A s.heap H locs) (hl : lv_has ls 7 [(0, .ref (q 52)), (1, .int p1), (2, .int p2), (3, .ref (q 0)), (4, .int p4), (5, .int p5)])
    (K : ∀ (pc : Nat) (ls : Array Slot) (rz : Int32) (H : Heap) (locs : List Loc), some rz = some r → is01 rz → decode cX12_sameBytes pc = .ok (.ireturn, 1) → va_P (dC, dI) vwCl (mW h0 kB kI kZ q g F) H → va_D A (mW h0 kB kI kZ q g F) → va_S A s.heap H locs → W p l e ({ frames := 2, cells := 0, slots := 0, locals := 60 } : Room) s m args below meth c H locs 0 0 Q (F0 m pc ls [.int rz])) : W p l e ({ frames := 2, cells := 0, slots := 0, locals := 60 } : Room) s m args below meth c H locs 0 0 Q (F0 m 0 ls []) := by
  unfold f_sameBytes at hr
  refine lv_iload_n hx hb dX12_sameBytes_0 rfl (lv_at hl 2 rfl) ?_
  refine lv_iload hx hb dX12_sameBytes_1 (lv_at hl 5 rfl) ?_
  refine lv_icmp_eq (tgt := 8) hx hb dX12_sameBytes_3 (by decide) (fun c3 => ?_) (fun c3 => ?_)
  · replace hr := iteT c3 hr
    refine lv_iconst (v := 0) hx hb dX12_sameBytes_8 (by decide +kernel) ?_
    refine lv_istore (lv' := [(6, .int 0), (0, .ref (q 52)), (1, .int p1), (2, .int p2), (3, .ref (q 0)), (4, .int p4), (5, .int p5)]) hx hb dX12_sameBytes_9 hl (by decide) rfl (fun ls hl => ?_)
    have lp11 : ∀ (n11 : Nat) (y11_6 : Int32) (H : Heap) (locs : List Loc) (ls : Array Slot), L_sameBytes_11 (F 52) 201600 p1 p2 (F 0) 2000 p4 n11 y11_6 = some r → va_P (dC, dI) vwCl (mW h0 kB kI kZ q g F) H → va_D A (mW h0 kB kI kZ q g F) → va_S A s.heap H locs → lv_has ls 7 [(0, .ref (q 52)), (1, .int p1), (2, .int p2), (3, .ref (q 0)), (4, .int p4), (6, .int y11_6)] → W p l e ({ frames := 2, cells := 0, slots := 0, locals := 60 } : Room) s m args below meth c H locs 0 0 Q (F0 m 11 ls []) := by
      intro n11
      induction n11 with
      | zero => intro y11_6 H locs ls hr; exact nomatch (show none = some r from hr)
      | succ n11 ih11 =>
        intro y11_6 H locs ls hr hP hD hS hl
        replace hr : B_sameBytes_11 (F 52) 201600 p1 p2 (F 0) 2000 p4 (L_sameBytes_11 (F 52) 201600 p1 p2 (F 0) 2000 p4 n11) y11_6 = some r := hr
        unfold B_sameBytes_11 at hr
        refine lv_iload hx hb dX12_sameBytes_11 (lv_at hl 5 rfl) ?_
        refine lv_iload_n hx hb dX12_sameBytes_13 rfl (lv_at hl 2 rfl) ?_
        refine lv_icmp_ge (tgt := 41) hx hb dX12_sameBytes_14 (by decide) (fun c14 => ?_) (fun c14 => ?_)
        · replace hr := iteT c14 hr
          refine lv_iconst (v := 1) hx hb dX12_sameBytes_41 (by decide +kernel) ?_
          exact K 42 ls _ H _ hr (by decide) dX12_sameBytes_42 hP hD hS
        · replace hr := iteF c14 hr
          refine lv_aload_n hx hb dX12_sameBytes_17 rfl (lv_at hl 0 rfl) ?_
          refine lv_iload_n hx hb dX12_sameBytes_18 rfl (lv_at hl 1 rfl) ?_
          refine lv_iload hx hb dX12_sameBytes_19 (lv_at hl 5 rfl) ?_
          refine lv_iadd hx hb dX12_sameBytes_21 ?_
          replace hr := iteS hr
          obtain ⟨hi22, hr⟩ := hr
          refine va_bald (f := (F 52)) hx hb hK hP 33 0 rfl rfl (inbV hi22) dX12_sameBytes_22 ?_
          refine lv_aload_n hx hb dX12_sameBytes_23 rfl (lv_at hl 3 rfl) ?_
          refine lv_iload hx hb dX12_sameBytes_24 (lv_at hl 4 rfl) ?_
          refine lv_iload hx hb dX12_sameBytes_26 (lv_at hl 5 rfl) ?_
          refine lv_iadd hx hb dX12_sameBytes_28 ?_
          replace hr := iteS hr
          obtain ⟨hi29, hr⟩ := hr
          refine va_bald (f := (F 0)) hx hb hK hP 1 0 rfl rfl (inbV hi29) dX12_sameBytes_29 ?_
          refine lv_icmp_eq (tgt := 35) hx hb dX12_sameBytes_30 (by decide) (fun c30 => ?_) (fun c30 => ?_)
          · replace hr := iteT c30 hr
            refine lv_iinc (v := (y11_6 + 1)) (lv' := [(6, .int (y11_6 + 1)), (0, .ref (q 52)), (1, .int p1), (2, .int p2), (3, .ref (q 0)), (4, .int p4)]) hx hb dX12_sameBytes_35 hl (k := 5) rfl rfl (by decide) rfl (fun ls hl => ?_)
            refine lv_goto (tgt := 11) hx hb dX12_sameBytes_38 (by decide) ?_
            exact ih11 (y11_6 + 1) H _ ls hr hP hD hS (lv_sub hl [1, 2, 3, 4, 5, 0] rfl)
          · replace hr := iteF c30 hr
            refine lv_iconst (v := 0) hx hb dX12_sameBytes_33 (by decide +kernel) ?_
            exact K 34 ls _ H _ hr (by decide) dX12_sameBytes_34 hP hD hS
    exact lp11 NN 0 H _ ls hr hP hD hS (lv_sub hl [1, 2, 3, 4, 5, 0] rfl)
  · replace hr := iteF c3 hr
    refine lv_iconst (v := 0) hx hb dX12_sameBytes_6 (by decide +kernel) ?_
    exact K 7 ls _ H _ hr (by decide) dX12_sameBytes_7 hP hD hS
set_option maxHeartbeats 4000000 in
set_option maxRecDepth 100000 in
theorem m_sameBytes_52_0 (l : Launch) (dC : Nat → ClassId) (dI : Nat → Nat → Nat) (sz : Nat) (h0 : Nat) (kB kI kZ : ClassId) (q : Nat → Nat) (g : Nat → Int32) (F : Nat → Nat → Int32) (p1 : Int32) (p2 : Int32) (p4 : Int32) (p5 : Int32) (r : Int32) (hr : f_sameBytes (F 52) 201600 p1 p2 (F 0) 2000 p4 p5 = some r) : Met l yX12_sameBytes vmX12_sameBytes ({ frames := 2, cells := 0, slots := 0, locals := 60 } : Room) (va_Pc [.ref (q 52), .int p1, .int p2, .ref (q 0), .int p4, .int p5] (fun U => U.heap.size = sz ∧ va_P (dC, dI) vwCl (mW h0 kB kI kZ q g F) U.heap ∧ va_K (dC, dI) vwCl (mT kB kI kZ) U ∧ va_D (fun _ => True) (mW h0 kB kI kZ q g F))) (va_Qi (fun (rz : Int32) (_ : Unit) => rz = r) (fun _ t => va_P (dC, dI) vwCl (mW h0 kB kI kZ q g F) t.heap ∧ va_K (dC, dI) vwCl (mT kB kI kZ) t ∧ va_D (va_A (mW h0 kB kI kZ q g F) sz) (mW h0 kB kI kZ q g F)) (va_A (mW h0 kB kI kZ q g F) sz)) 0 0 (va_A (mW h0 kB kI kZ q g F) sz) := by
  refine Met.ofW (cc := cX12_sameBytes) (maxL := 7) (ret := (some .boolean)) (by decide) rfl ?_
  intro p e s m args below meth c s₁ B hml hv
  obtain ⟨rfl, hsz, hP, hK, hD0⟩ := hv
  have hx := B.exec
  have hb := B.bytes
  have hrt := B.returns
  have hts := atoms_spec (ws := vmX12_sameBytes) B.pre
  have hown : s.vm.findClass RX12 = some m.cls := findClass_of_methodNamed B.named
  subst hsz
  have hD := hD0.self (sz := s.heap.size)
  generalize hAe : va_A (mW h0 kB kI kZ q g F) s.heap.size = A at hD ⊢
  have hA : ∀ q : Nat, s.heap.size ≤ q → A q := fun q h => by rw [← hAe]; exact Or.inr h
  have hS : va_S A s.heap s.heap [] := va_S.rf
  have hl := lv_entry ([.ref (q 52), .int p1, .int p2, .ref (q 0), .int p4, .int p5]) (n := 7) (Nat.le_of_ble_eq_true rfl)
  rw [lg_entry_eq]
  generalize (lg_sl ([.ref (q 52), .int p1, .int p2, .ref (q 0), .int p4, .int p5]) ++ List.replicate (7 - (lg_sl ([.ref (q 52), .int p1, .int p2, .ref (q 0), .int p4, .int p5])).length) Slot.unset).toArray = ls at hl ⊢
  exact bm_sameBytes_52_0 p1 p2 p4 p5 r hr hx hb hml hown hts hA hK hP hD hS hl (fun pc ls rz H locs he hz hd hP hD hS => by cases he; exact W.zret (v := r) hx hb hrt (z_nb hz) (fun t ht hW => ⟨⟨r, (), rfl, rfl, by rw [ht]; exact hP, va_K.moved hW.alike hK, hD⟩, hS.F ht⟩) hS.2.2 hd)
set_option maxHeartbeats 4000000 in
set_option maxRecDepth 100000 in
theorem bm_hasForm_0 {p : Program} {l : Launch} {e : Env} {s : State} {m : MethodId} {args : Array Value} {below : List Frame} {meth : Method} {c : Code} {Q : State → Prop} {A : Nat → Prop} {dC : Nat → ClassId} {dI : Nat → Nat → Nat} {h0 : Nat} {kB kI kZ : ClassId} {q : Nat → Nat} {g : Nat → Int32} {F : Nat → Nat → Int32} {H : Heap} {locs : List Loc} {ls : Array Slot} (p0 : Int32) (p1 : Int32) (p3 : Int32) (p4 : Int32) (r : Int32) (hr : f_hasForm g F p0 p1 (F 0) 2000 p3 p4 = some r) (hx : p.tables.exec = Jvm.exec) (hb : c.code = cX12_hasForm) (hml : c.maxLocals = 7) (hown : s.vm.findClass RX12 = some m.cls) (hts : ∀ w ∈ vmX12_hasForm, w.before args s = true) (hA : ∀ q : Nat, s.heap.size ≤ q → A q) (hK : va_K (dC, dI) vwCl (mT kB kI kZ) s) (hP : va_P (dC, dI) vwCl (mW h0 kB kI kZ q g F) H) (hD : va_D A (mW h0 kB kI kZ q g F)) (hS : va_S A s.heap H locs) (hl : lv_has ls 7 [(0, .ref h0), (1, .int p0), (2, .int p1), (3, .ref (q 0)), (4, .int p3), (5, .int p4)])
    (K : ∀ (pc : Nat) (ls : Array Slot) (rz : Int32) (H : Heap) (locs : List Loc), some rz = some r → is01 rz → decode cX12_hasForm pc = .ok (.ireturn, 1) → va_P (dC, dI) vwCl (mW h0 kB kI kZ q g F) H → va_D A (mW h0 kB kI kZ q g F) → va_S A s.heap H locs → W p l e ({ frames := 3, cells := 0, slots := 0, locals := 86 } : Room) s m args below meth c H locs 0 0 Q (F0 m pc ls [.int rz])) : W p l e ({ frames := 3, cells := 0, slots := 0, locals := 86 } : Room) s m args below meth c H locs 0 0 Q (F0 m 0 ls []) := by
  unfold f_hasForm at hr
  refine lv_bipush (v := 12) hx hb dX12_hasForm_0 (by decide +kernel) ?_
  refine lv_bipush (v := 7) hx hb dX12_hasForm_2 (by decide +kernel) ?_
  refine lv_iload_n hx hb dX12_hasForm_4 rfl (lv_at hl 1 rfl) ?_
  refine lv_imul hx hb dX12_hasForm_5 ?_
  refine lv_iload_n hx hb dX12_hasForm_6 rfl (lv_at hl 2 rfl) ?_
  refine lv_iadd hx hb dX12_hasForm_7 ?_
  refine lv_imul hx hb dX12_hasForm_8 ?_
  refine lv_topi (fun x9 ex9 => ?_)
  replace hr := vlS hr x9 ex9
  clear ex9
  refine lv_istore (lv' := [(6, .int x9), (0, .ref h0), (1, .int p0), (2, .int p1), (3, .ref (q 0)), (4, .int p3), (5, .int p4)]) hx hb dX12_hasForm_9 hl (by decide) rfl (fun ls hl => ?_)
  have lp11 : ∀ (n11 : Nat) (y11_6 : Int32) (H : Heap) (locs : List Loc) (ls : Array Slot), L_hasForm_11 F p0 p1 (F 0) 2000 p3 p4 n11 y11_6 = some r → va_P (dC, dI) vwCl (mW h0 kB kI kZ q g F) H → va_D A (mW h0 kB kI kZ q g F) → va_S A s.heap H locs → lv_has ls 7 [(0, .ref h0), (1, .int p0), (2, .int p1), (3, .ref (q 0)), (4, .int p3), (5, .int p4), (6, .int y11_6)] → W p l e ({ frames := 3, cells := 0, slots := 0, locals := 86 } : Room) s m args below meth c H locs 0 0 Q (F0 m 11 ls []) := by
    intro n11
    induction n11 with
    | zero => intro y11_6 H locs ls hr; exact nomatch (show none = some r from hr)
    | succ n11 ih11 =>
      intro y11_6 H locs ls hr hP hD hS hl
      replace hr : B_hasForm_11 F p0 p1 (F 0) 2000 p3 p4 (L_hasForm_11 F p0 p1 (F 0) 2000 p3 p4 n11) y11_6 = some r := hr
      unfold B_hasForm_11 at hr
      refine lv_iload hx hb dX12_hasForm_11 (lv_at hl 6 rfl) ?_
      refine lv_bipush (v := 12) hx hb dX12_hasForm_13 (by decide +kernel) ?_
      refine lv_bipush (v := 7) hx hb dX12_hasForm_15 (by decide +kernel) ?_
      refine lv_iload_n hx hb dX12_hasForm_17 rfl (lv_at hl 1 rfl) ?_
      refine lv_imul hx hb dX12_hasForm_18 ?_
      refine lv_iload_n hx hb dX12_hasForm_19 rfl (lv_at hl 2 rfl) ?_
      refine lv_iadd hx hb dX12_hasForm_20 ?_
      refine lv_imul hx hb dX12_hasForm_21 ?_
      refine lv_aload_n hx hb dX12_hasForm_22 rfl (lv_at hl 0 rfl) ?_
      refine va_get (D := (dC, dI)) (ci := 12) (v := .ref (q 54)) (C := RX12) (T := TX12) (N := 71) hx hb hts inX12 hown hK hP 0 rfl rfl 54 (by decide) (hts (.fieldLink RX12 119 "SpellTurnerModel" "formMany" "[I") im_107) (fun _ h9 => h9) rfl dX12_hasForm_23 ?_
      refine lv_bipush (v := 7) hx hb dX12_hasForm_26 (by decide +kernel) ?_
      refine lv_iload_n hx hb dX12_hasForm_28 rfl (lv_at hl 1 rfl) ?_
      refine lv_imul hx hb dX12_hasForm_29 ?_
      refine lv_iload_n hx hb dX12_hasForm_30 rfl (lv_at hl 2 rfl) ?_
      refine lv_iadd hx hb dX12_hasForm_31 ?_
      replace hr := iteS hr
      obtain ⟨hi32, hr⟩ := hr
      refine va_iald (f := (F 54)) hx hb hK hP 35 1 rfl rfl (inbV hi32) dX12_hasForm_32 ?_
      refine lv_iadd hx hb dX12_hasForm_33 ?_
      refine lv_icmp_ge (tgt := 72) hx hb dX12_hasForm_34 (by decide) (fun c34 => ?_) (fun c34 => ?_)
      · replace hr := iteT c34 hr
        refine lv_iconst (v := 0) hx hb dX12_hasForm_72 (by decide +kernel) ?_
        exact K 73 ls _ H _ hr (by decide) dX12_hasForm_73 hP hD hS
      · replace hr := iteF c34 hr
        refine lv_aload_n hx hb dX12_hasForm_37 rfl (lv_at hl 0 rfl) ?_
        refine va_get (D := (dC, dI)) (ci := 12) (v := .ref (q 52)) (C := RX12) (T := TX12) (N := 71) hx hb hts inX12 hown hK hP 0 rfl rfl 52 (by decide) (hts (.fieldLink RX12 113 "SpellTurnerModel" "formText" "[B") im_108) (fun _ h9 => h9) rfl dX12_hasForm_38 ?_
        refine lv_bipush (v := 24) hx hb dX12_hasForm_41 (by decide +kernel) ?_
        refine lv_iload hx hb dX12_hasForm_43 (lv_at hl 6 rfl) ?_
        refine lv_imul hx hb dX12_hasForm_45 ?_
        refine lv_aload_n hx hb dX12_hasForm_46 rfl (lv_at hl 0 rfl) ?_
        refine va_get (D := (dC, dI)) (ci := 12) (v := .ref (q 53)) (C := RX12) (T := TX12) (N := 71) hx hb hts inX12 hown hK hP 0 rfl rfl 53 (by decide) (hts (.fieldLink RX12 116 "SpellTurnerModel" "formSize" "[I") im_109) (fun _ h9 => h9) rfl dX12_hasForm_47 ?_
        refine lv_iload hx hb dX12_hasForm_50 (lv_at hl 6 rfl) ?_
        replace hr := iteS hr
        obtain ⟨hi52, hr⟩ := hr
        refine va_iald (f := (F 53)) hx hb hK hP 34 1 rfl rfl (inbV hi52) dX12_hasForm_52 ?_
        refine lv_aload_n hx hb dX12_hasForm_53 rfl (lv_at hl 3 rfl) ?_
        refine lv_iload hx hb dX12_hasForm_54 (lv_at hl 4 rfl) ?_
        refine lv_iload hx hb dX12_hasForm_56 (lv_at hl 5 rfl) ?_
        replace hr := b1S hr
        obtain ⟨r58z, hc58, hr⟩ := hr
        have hFc := fr_all hD hS hA
        refine va_calli (va_runS (As := [.ref (q 52), .int (24 * y11_6), .int ((F 53) (Int32.toNatClampNeg y11_6)), .ref (q 0), .int p3, .int p4]) (rest := []) ⟨hx, hb, hml, hown, hts⟩ (m_sameBytes_52_0 l dC dI H.size h0 kB kI kZ q g F (24 * y11_6) ((F 53) (Int32.toNatClampNeg y11_6)) p3 p4 r58z hc58) (va_cwS 6 hts gw_X12_sameBytes_273 rfl rfl rfl (by decide +kernel) ⟨Nat.le_of_ble_eq_true rfl, Nat.le_of_ble_eq_true rfl⟩) ⟨fun a U g mk q => by obtain ⟨q0, q1, qP, qK, qD⟩ := q; exact ⟨q0, q1, qP, va_K.moved (u := U) (U := U.calling g mk a) (Vm.Alike.refl U.vm) qK, qD⟩, fun U hU hW => ⟨rfl, by rw [hU], by rw [hU]; exact hP, va_K.moved hW.alike hK, hD.weaken (fun _ _ _ _ => trivial)⟩⟩ rfl rfl hl.1 rfl (lv_room (Nat.le_of_ble_eq_true rfl)) dX12_hasForm_58 ⟨Nat.le_of_ble_eq_true rfl, Nat.le_of_ble_eq_true rfl⟩) hS (fun q _ h => hFc q h) hFc (fun r58 u t H1 locs ht hvm hw hB hz1 hk1 hS => ?_)
        replace hw : r58 = r58z := hw
        subst hw
        obtain ⟨hP1, hK1, hD1⟩ := hB
        rw [ht] at hP1
        obtain ⟨hP, hD⟩ := jn_all (w1 := (mW h0 kB kI kZ q g F)) hFc hP1 hD1
        clear hFc hP1 hK1 hD1 hk1 hz1 ht hvm
        generalize H1 = H at hP hS ⊢
        have hP : va_P (dC, dI) vwCl (mW h0 kB kI kZ q g F) H := hP
        have hD : va_D A (mW h0 kB kI kZ q g F) := hD
        refine lv_if_eq (tgt := 66) hx hb dX12_hasForm_61 (by decide) (fun c61 => ?_) (fun c61 => ?_)
        · replace hr := iteT c61 hr
          refine lv_iinc (v := (y11_6 + 1)) (lv' := [(6, .int (y11_6 + 1)), (0, .ref h0), (1, .int p0), (2, .int p1), (3, .ref (q 0)), (4, .int p3), (5, .int p4)]) hx hb dX12_hasForm_66 hl (k := 6) rfl rfl (by decide) rfl (fun ls hl => ?_)
          refine lv_goto (tgt := 11) hx hb dX12_hasForm_69 (by decide) ?_
          exact ih11 (y11_6 + 1) H _ ls hr hP hD hS (lv_sub hl [1, 2, 3, 4, 5, 6, 0] rfl)
        · replace hr := iteF c61 hr
          refine lv_iconst (v := 1) hx hb dX12_hasForm_64 (by decide +kernel) ?_
          exact K 65 ls _ H _ hr (by decide) dX12_hasForm_65 hP hD hS
  exact lp11 NN x9 H _ ls hr hP hD hS (lv_sub hl [1, 2, 3, 4, 5, 6, 0] rfl)
set_option maxHeartbeats 4000000 in
set_option maxRecDepth 100000 in
theorem m_hasForm_0 (l : Launch) (dC : Nat → ClassId) (dI : Nat → Nat → Nat) (sz : Nat) (h0 : Nat) (kB kI kZ : ClassId) (q : Nat → Nat) (g : Nat → Int32) (F : Nat → Nat → Int32) (p0 : Int32) (p1 : Int32) (p3 : Int32) (p4 : Int32) (r : Int32) (hr : f_hasForm g F p0 p1 (F 0) 2000 p3 p4 = some r) : Met l yX12_hasForm vmX12_hasForm ({ frames := 3, cells := 0, slots := 0, locals := 86 } : Room) (va_Pc [.ref h0, .int p0, .int p1, .ref (q 0), .int p3, .int p4] (fun U => U.heap.size = sz ∧ va_P (dC, dI) vwCl (mW h0 kB kI kZ q g F) U.heap ∧ va_K (dC, dI) vwCl (mT kB kI kZ) U ∧ va_D (fun _ => True) (mW h0 kB kI kZ q g F))) (va_Qi (fun (rz : Int32) (_ : Unit) => rz = r) (fun _ t => va_P (dC, dI) vwCl (mW h0 kB kI kZ q g F) t.heap ∧ va_K (dC, dI) vwCl (mT kB kI kZ) t ∧ va_D (va_A (mW h0 kB kI kZ q g F) sz) (mW h0 kB kI kZ q g F)) (va_A (mW h0 kB kI kZ q g F) sz)) 0 0 (va_A (mW h0 kB kI kZ q g F) sz) := by
  refine Met.ofW (cc := cX12_hasForm) (maxL := 7) (ret := (some .boolean)) (by decide) rfl ?_
  intro p e s m args below meth c s₁ B hml hv
  obtain ⟨rfl, hsz, hP, hK, hD0⟩ := hv
  have hx := B.exec
  have hb := B.bytes
  have hrt := B.returns
  have hts := atoms_spec (ws := vmX12_hasForm) B.pre
  have hown : s.vm.findClass RX12 = some m.cls := findClass_of_methodNamed B.named
  subst hsz
  have hD := hD0.self (sz := s.heap.size)
  generalize hAe : va_A (mW h0 kB kI kZ q g F) s.heap.size = A at hD ⊢
  have hA : ∀ q : Nat, s.heap.size ≤ q → A q := fun q h => by rw [← hAe]; exact Or.inr h
  have hS : va_S A s.heap s.heap [] := va_S.rf
  have hl := lv_entry ([.ref h0, .int p0, .int p1, .ref (q 0), .int p3, .int p4]) (n := 7) (Nat.le_of_ble_eq_true rfl)
  rw [lg_entry_eq]
  generalize (lg_sl ([.ref h0, .int p0, .int p1, .ref (q 0), .int p3, .int p4]) ++ List.replicate (7 - (lg_sl ([.ref h0, .int p0, .int p1, .ref (q 0), .int p3, .int p4])).length) Slot.unset).toArray = ls at hl ⊢
  exact bm_hasForm_0 p0 p1 p3 p4 r hr hx hb hml hown hts hA hK hP hD hS hl (fun pc ls rz H locs he hz hd hP hD hS => by cases he; exact W.zret (v := r) hx hb hrt (z_nb hz) (fun t ht hW => ⟨⟨r, (), rfl, rfl, by rw [ht]; exact hP, va_K.moved hW.alike hK, hD⟩, hS.F ht⟩) hS.2.2 hd)
set_option maxHeartbeats 4000000 in
set_option maxRecDepth 100000 in
theorem bm_isKnown {p : Program} {l : Launch} {e : Env} {s : State} {m : MethodId} {args : Array Value} {below : List Frame} {meth : Method} {c : Code} {Q : State → Prop} {A : Nat → Prop} {dC : Nat → ClassId} {dI : Nat → Nat → Nat} {h0 : Nat} {kB kI kZ : ClassId} {q : Nat → Nat} {g : Nat → Int32} {F : Nat → Nat → Int32} {H : Heap} {locs : List Loc} {ls : Array Slot} (p0 : Int32) (p1 : Int32) (p2 : Int32) (r : Int32) (hr : f_isKnown g F p0 p1 p2 = some r) (hx : p.tables.exec = Jvm.exec) (hb : c.code = cX12_isKnown) (hml : c.maxLocals = 5) (hown : s.vm.findClass RX12 = some m.cls) (hts : ∀ w ∈ vmX12_isKnown, w.before args s = true) (hA : ∀ q : Nat, s.heap.size ≤ q → A q) (hK : va_K (dC, dI) vwCl (mT kB kI kZ) s) (hP : va_P (dC, dI) vwCl (mW h0 kB kI kZ q g F) H) (hD : va_D A (mW h0 kB kI kZ q g F)) (hS : va_S A s.heap H locs) (hl : lv_has ls 5 [(0, .ref h0), (1, .int p0), (2, .int p1), (3, .int p2)])
    (K : ∀ (pc : Nat) (ls : Array Slot) (rz : Int32) (H : Heap) (locs : List Loc), some rz = some r → is01 rz → decode cX12_isKnown pc = .ok (.ireturn, 1) → va_P (dC, dI) vwCl (mW h0 kB kI kZ q g F) H → va_D A (mW h0 kB kI kZ q g F) → va_S A s.heap H locs → W p l e ({ frames := 4, cells := 0, slots := 0, locals := 112 } : Room) s m args below meth c H locs 0 0 Q (F0 m pc ls [.int rz])) : W p l e ({ frames := 4, cells := 0, slots := 0, locals := 112 } : Room) s m args below meth c H locs 0 0 Q (F0 m 0 ls []) := by
  unfold f_isKnown at hr
  refine lv_iconst (v := 0) hx hb dX12_isKnown_0 (by decide +kernel) ?_
  refine lv_istore (lv' := [(4, .int 0), (0, .ref h0), (1, .int p0), (2, .int p1), (3, .int p2)]) hx hb dX12_isKnown_1 hl (by decide) rfl (fun ls hl => ?_)
  have lp3 : ∀ (n3 : Nat) (y3_4 : Int32) (H : Heap) (locs : List Loc) (ls : Array Slot), L_isKnown_3 g F p0 p1 p2 n3 y3_4 = some r → va_P (dC, dI) vwCl (mW h0 kB kI kZ q g F) H → va_D A (mW h0 kB kI kZ q g F) → va_S A s.heap H locs → lv_has ls 5 [(0, .ref h0), (1, .int p0), (2, .int p1), (3, .int p2), (4, .int y3_4)] → W p l e ({ frames := 4, cells := 0, slots := 0, locals := 112 } : Room) s m args below meth c H locs 0 0 Q (F0 m 3 ls []) := by
    intro n3
    induction n3 with
    | zero => intro y3_4 H locs ls hr; exact nomatch (show none = some r from hr)
    | succ n3 ih3 =>
      intro y3_4 H locs ls hr hP hD hS hl
      replace hr : B_isKnown_3 g F p0 p1 p2 (L_isKnown_3 g F p0 p1 p2 n3) y3_4 = some r := hr
      unfold B_isKnown_3 at hr
      refine lv_iload hx hb dX12_isKnown_3 (lv_at hl 4 rfl) ?_
      refine lv_aload_n hx hb dX12_isKnown_5 rfl (lv_at hl 0 rfl) ?_
      refine va_get (D := (dC, dI)) (ci := 12) (v := .int (g 48)) (C := RX12) (T := TX12) (N := 71) hx hb hts inX12 hown hK hP 0 rfl rfl 48 (by decide) (hts (.fieldLink RX12 312 "SpellTurnerModel" "words" "I") im_85) (fun _ h9 => h9) rfl dX12_isKnown_6 ?_
      refine lv_icmp_ge (tgt := 38) hx hb dX12_isKnown_9 (by decide) (fun c9 => ?_) (fun c9 => ?_)
      · replace hr := iteT c9 hr
        refine lv_iconst (v := 0) hx hb dX12_isKnown_38 (by decide +kernel) ?_
        exact K 39 ls _ H _ hr (by decide) dX12_isKnown_39 hP hD hS
      · replace hr := iteF c9 hr
        refine lv_aload_n hx hb dX12_isKnown_12 rfl (lv_at hl 0 rfl) ?_
        refine lv_iload hx hb dX12_isKnown_13 (lv_at hl 4 rfl) ?_
        refine lv_iload_n hx hb dX12_isKnown_15 rfl (lv_at hl 1 rfl) ?_
        refine lv_aload_n hx hb dX12_isKnown_16 rfl (lv_at hl 0 rfl) ?_
        refine va_get (D := (dC, dI)) (ci := 12) (v := .ref (q 0)) (C := RX12) (T := TX12) (N := 71) hx hb hts inX12 hown hK hP 0 rfl rfl 0 (by decide) (hts (.fieldLink RX12 7 "SpellTurnerModel" "tape" "[B") im_34) (fun _ h9 => h9) rfl dX12_isKnown_17 ?_
        refine lv_iload_n hx hb dX12_isKnown_20 rfl (lv_at hl 2 rfl) ?_
        refine lv_iload_n hx hb dX12_isKnown_21 rfl (lv_at hl 3 rfl) ?_
        refine lv_iload_n hx hb dX12_isKnown_22 rfl (lv_at hl 2 rfl) ?_
        refine lv_isub hx hb dX12_isKnown_23 ?_
        replace hr := b1S hr
        obtain ⟨r24z, hc24, hr⟩ := hr
        have hFc := fr_all hD hS hA
        refine va_calli (va_runV (As := [.int y3_4, .int p0, .ref (q 0), .int p1, .int (p2 - p1)]) (rest := []) ⟨hx, hb, hml, hown, hts⟩ (m_hasForm_0 l dC dI H.size h0 kB kI kZ q g F y3_4 p0 p1 (p2 - p1) r24z hc24) (cwV 5 hts gw_X12_hasForm_321 rfl rfl rfl (by decide +kernel) ⟨Nat.le_of_ble_eq_true rfl, Nat.le_of_ble_eq_true rfl⟩) ⟨fun a U g mk q => by obtain ⟨q0, q1, qP, qK, qD⟩ := q; exact ⟨q0, q1, qP, va_K.moved (u := U) (U := U.calling g mk a) (Vm.Alike.refl U.vm) qK, qD⟩, va_recv hK hP (ci := 12) (q0 := 0) rfl rfl, fun U hU hW => ⟨rfl, by rw [hU], by rw [hU]; exact hP, va_K.moved hW.alike hK, hD.weaken (fun _ _ _ _ => trivial)⟩⟩ rfl rfl hl.1 rfl (lv_room (Nat.le_of_ble_eq_true rfl)) dX12_isKnown_24 ⟨Nat.le_of_ble_eq_true rfl, Nat.le_of_ble_eq_true rfl⟩) hS (fun q _ h => hFc q h) hFc (fun r24 u t H1 locs ht hvm hw hB hz1 hk1 hS => ?_)
        replace hw : r24 = r24z := hw
        subst hw
        obtain ⟨hP1, hK1, hD1⟩ := hB
        rw [ht] at hP1
        obtain ⟨hP, hD⟩ := jn_all (w1 := (mW h0 kB kI kZ q g F)) hFc hP1 hD1
        clear hFc hP1 hK1 hD1 hk1 hz1 ht hvm
        generalize H1 = H at hP hS ⊢
        have hP : va_P (dC, dI) vwCl (mW h0 kB kI kZ q g F) H := hP
        have hD : va_D A (mW h0 kB kI kZ q g F) := hD
        refine lv_if_eq (tgt := 32) hx hb dX12_isKnown_27 (by decide) (fun c27 => ?_) (fun c27 => ?_)
        · replace hr := iteT c27 hr
          refine lv_iinc (v := (y3_4 + 1)) (lv' := [(4, .int (y3_4 + 1)), (0, .ref h0), (1, .int p0), (2, .int p1), (3, .int p2)]) hx hb dX12_isKnown_32 hl (k := 4) rfl rfl (by decide) rfl (fun ls hl => ?_)
          refine lv_goto (tgt := 3) hx hb dX12_isKnown_35 (by decide) ?_
          exact ih3 (y3_4 + 1) H _ ls hr hP hD hS (lv_sub hl [1, 2, 3, 4, 0] rfl)
        · replace hr := iteF c27 hr
          refine lv_iconst (v := 1) hx hb dX12_isKnown_30 (by decide +kernel) ?_
          exact K 31 ls _ H _ hr (by decide) dX12_isKnown_31 hP hD hS
  exact lp3 NN 0 H _ ls hr hP hD hS (lv_sub hl [1, 2, 3, 4, 0] rfl)
set_option maxHeartbeats 4000000 in
set_option maxRecDepth 100000 in
theorem m_isKnown (l : Launch) (dC : Nat → ClassId) (dI : Nat → Nat → Nat) (sz : Nat) (h0 : Nat) (kB kI kZ : ClassId) (q : Nat → Nat) (g : Nat → Int32) (F : Nat → Nat → Int32) (p0 : Int32) (p1 : Int32) (p2 : Int32) (r : Int32) (hr : f_isKnown g F p0 p1 p2 = some r) : Met l yX12_isKnown vmX12_isKnown ({ frames := 4, cells := 0, slots := 0, locals := 112 } : Room) (va_Pc [.ref h0, .int p0, .int p1, .int p2] (fun U => U.heap.size = sz ∧ va_P (dC, dI) vwCl (mW h0 kB kI kZ q g F) U.heap ∧ va_K (dC, dI) vwCl (mT kB kI kZ) U ∧ va_D (fun _ => True) (mW h0 kB kI kZ q g F))) (va_Qi (fun (rz : Int32) (_ : Unit) => rz = r) (fun _ t => va_P (dC, dI) vwCl (mW h0 kB kI kZ q g F) t.heap ∧ va_K (dC, dI) vwCl (mT kB kI kZ) t ∧ va_D (va_A (mW h0 kB kI kZ q g F) sz) (mW h0 kB kI kZ q g F)) (va_A (mW h0 kB kI kZ q g F) sz)) 0 0 (va_A (mW h0 kB kI kZ q g F) sz) := by
  refine Met.ofW (cc := cX12_isKnown) (maxL := 5) (ret := (some .boolean)) (by decide) rfl ?_
  intro p e s m args below meth c s₁ B hml hv
  obtain ⟨rfl, hsz, hP, hK, hD0⟩ := hv
  have hx := B.exec
  have hb := B.bytes
  have hrt := B.returns
  have hts := atoms_spec (ws := vmX12_isKnown) B.pre
  have hown : s.vm.findClass RX12 = some m.cls := findClass_of_methodNamed B.named
  subst hsz
  have hD := hD0.self (sz := s.heap.size)
  generalize hAe : va_A (mW h0 kB kI kZ q g F) s.heap.size = A at hD ⊢
  have hA : ∀ q : Nat, s.heap.size ≤ q → A q := fun q h => by rw [← hAe]; exact Or.inr h
  have hS : va_S A s.heap s.heap [] := va_S.rf
  have hl := lv_entry ([.ref h0, .int p0, .int p1, .int p2]) (n := 5) (Nat.le_of_ble_eq_true rfl)
  rw [lg_entry_eq]
  generalize (lg_sl ([.ref h0, .int p0, .int p1, .int p2]) ++ List.replicate (5 - (lg_sl ([.ref h0, .int p0, .int p1, .int p2])).length) Slot.unset).toArray = ls at hl ⊢
  exact bm_isKnown p0 p1 p2 r hr hx hb hml hown hts hA hK hP hD hS hl (fun pc ls rz H locs he hz hd hP hD hS => by cases he; exact W.zret (v := r) hx hb hrt (z_nb hz) (fun t ht hW => ⟨⟨r, (), rfl, rfl, by rw [ht]; exact hP, va_K.moved hW.alike hK, hD⟩, hS.F ht⟩) hS.2.2 hd)
set_option maxHeartbeats 4000000 in
set_option maxRecDepth 100000 in
theorem bm_copy_14_15 {p : Program} {l : Launch} {e : Env} {s : State} {m : MethodId} {args : Array Value} {below : List Frame} {meth : Method} {c : Code} {Q : State → Prop} {A : Nat → Prop} {dC : Nat → ClassId} {dI : Nat → Nat → Nat} {h0 : Nat} {kB kI kZ : ClassId} {q : Nat → Nat} {g : Nat → Int32} {F : Nat → Nat → Int32} {H : Heap} {locs : List Loc} {ls : Array Slot} (p2 : Int32) (p3 : Int32) (c_A0 : (Nat → Int32)) (c_A1 : (Nat → Int32)) (hr : f_copy (F 14) 17920 (F 15) 1120 p2 p3 = some (c_A0, c_A1)) (hx : p.tables.exec = Jvm.exec) (hb : c.code = cX12_copy) (hml : c.maxLocals = 5) (hown : s.vm.findClass RX12 = some m.cls) (hts : ∀ w ∈ vmX12_copy, w.before args s = true) (hA : ∀ q : Nat, s.heap.size ≤ q → A q) (hK : va_K (dC, dI) vwCl (mT kB kI kZ) s) (hP : va_P (dC, dI) vwCl (mW h0 kB kI kZ q g F) H) (hD : va_D A (mW h0 kB kI kZ q g F)) (hS : va_S A s.heap H locs) (hl : lv_has ls 5 [(0, .ref (q 14)), (1, .ref (q 15)), (2, .int p2), (3, .int p3)])
    (K : ∀ (pc : Nat) (ls : Array Slot) (c_A0z : (Nat → Int32)) (c_A1z : (Nat → Int32)) (H : Heap) (locs : List Loc), some (c_A0z, c_A1z) = some (c_A0, c_A1) → decode cX12_copy pc = .ok (.return_, 1) → va_P (dC, dI) vwCl (mW h0 kB kI kZ q g (upF (upF F 14 c_A0z) 15 c_A1z)) H → va_D A (mW h0 kB kI kZ q g (upF (upF F 14 c_A0z) 15 c_A1z)) → va_S A s.heap H locs → W p l e ({ frames := 2, cells := 0, slots := 0, locals := 60 } : Room) s m args below meth c H locs 0 0 Q (F0 m pc ls [])) : W p l e ({ frames := 2, cells := 0, slots := 0, locals := 60 } : Room) s m args below meth c H locs 0 0 Q (F0 m 0 ls []) := by
  unfold f_copy at hr
  refine lv_aload_n hx hb dX12_copy_0 rfl (lv_at hl 1 rfl) ?_
  refine lv_iload_n hx hb dX12_copy_1 rfl (lv_at hl 3 rfl) ?_
  refine lv_aload_n hx hb dX12_copy_2 rfl (lv_at hl 1 rfl) ?_
  refine lv_iload_n hx hb dX12_copy_3 rfl (lv_at hl 2 rfl) ?_
  replace hr := iteS hr
  obtain ⟨hi4, hr⟩ := hr
  refine va_iald (f := (F 15)) hx hb hK hP 7 1 rfl rfl (inbV hi4) dX12_copy_4 ?_
  replace hr := iteS hr
  obtain ⟨hi5, hr⟩ := hr
  refine va_iast (f := (F 15)) hx hb hK hP hD hS 7 1 rfl rfl (inbV hi5) dX12_copy_5 (fun H locs hP hD hS => ?_)
  obtain ⟨w5, ew5, hP, hD⟩ : ∃ w5 : Nat → Int32, w5 = (upd (F 15) (Int32.toNatClampNeg p3) ((F 15) (Int32.toNatClampNeg p2))) ∧ va_P (dC, dI) vwCl (mW h0 kB kI kZ q g (upF F 15 w5)) H ∧ va_D A (mW h0 kB kI kZ q g (upF F 15 w5)) := ⟨(upd (F 15) (Int32.toNatClampNeg p3) ((F 15) (Int32.toNatClampNeg p2))), rfl, by first | exact sP_F15 hP rfl | exact sP_F15 hP upF_same | exact hP, by first | exact sD_F15 hD rfl | exact sD_F15 hD upF_same | exact hD⟩
  replace hr := vlS hr w5 ew5
  clear ew5
  refine lv_iconst (v := 0) hx hb dX12_copy_6 (by decide +kernel) ?_
  refine lv_istore (lv' := [(4, .int 0), (0, .ref (q 14)), (1, .ref (q 15)), (2, .int p2), (3, .int p3)]) hx hb dX12_copy_7 hl (by decide) rfl (fun ls hl => ?_)
  have lp9 : ∀ (n9 : Nat) (y9_4 : Int32) (d9_A0 : (Nat → Int32)) (H : Heap) (locs : List Loc) (ls : Array Slot), L_copy_9 17920 1120 p2 p3 w5 n9 y9_4 d9_A0 = some (c_A0, c_A1) → va_P (dC, dI) vwCl (mW h0 kB kI kZ q g (upF (upF F 14 d9_A0) 15 w5)) H → va_D A (mW h0 kB kI kZ q g (upF (upF F 14 d9_A0) 15 w5)) → va_S A s.heap H locs → lv_has ls 5 [(0, .ref (q 14)), (1, .ref (q 15)), (2, .int p2), (3, .int p3), (4, .int y9_4)] → W p l e ({ frames := 2, cells := 0, slots := 0, locals := 60 } : Room) s m args below meth c H locs 0 0 Q (F0 m 9 ls []) := by
    intro n9
    induction n9 with
    | zero => intro y9_4 d9_A0 H locs ls hr; exact nomatch (show none = some (c_A0, c_A1) from hr)
    | succ n9 ih9 =>
      intro y9_4 d9_A0 H locs ls hr hP hD hS hl
      replace hr : B_copy_9 17920 1120 p2 p3 w5 (L_copy_9 17920 1120 p2 p3 w5 n9) y9_4 d9_A0 = some (c_A0, c_A1) := hr
      unfold B_copy_9 at hr
      refine lv_iload hx hb dX12_copy_9 (lv_at hl 4 rfl) ?_
      refine lv_aload_n hx hb dX12_copy_11 rfl (lv_at hl 1 rfl) ?_
      refine lv_iload_n hx hb dX12_copy_12 rfl (lv_at hl 2 rfl) ?_
      replace hr := iteS hr
      obtain ⟨hi13, hr⟩ := hr
      refine va_iald (f := w5) hx hb hK hP 7 1 rfl rfl (inbV hi13) dX12_copy_13 ?_
      refine lv_icmp_ge (tgt := 41) hx hb dX12_copy_14 (by decide) (fun c14 => ?_) (fun c14 => ?_)
      · replace hr := iteT c14 hr
        first | exact K 41 ls _ _ H _ hr dX12_copy_41 (sP_eq (mW_cg (by repeat (first | with_reducible rfl | with_reducible refine upd_cg ?_ | refine Eq.trans ?_ (upd_id rfl))) (by repeat (first | with_reducible rfl | with_reducible refine upF_cg ?_ | refine Eq.trans ?_ (upF_id rfl)))) hP) (sD_eq (mW_cg (by repeat (first | with_reducible rfl | with_reducible refine upd_cg ?_ | refine Eq.trans ?_ (upd_id rfl))) (by repeat (first | with_reducible rfl | with_reducible refine upF_cg ?_ | refine Eq.trans ?_ (upF_id rfl)))) hD) hS | exact K 41 ls _ _ H _ hr dX12_copy_41 hP hD hS
      · replace hr := iteF c14 hr
        refine lv_aload_n hx hb dX12_copy_17 rfl (lv_at hl 0 rfl) ?_
        refine lv_bipush (v := 16) hx hb dX12_copy_18 (by decide +kernel) ?_
        refine lv_iload_n hx hb dX12_copy_20 rfl (lv_at hl 3 rfl) ?_
        refine lv_imul hx hb dX12_copy_21 ?_
        refine lv_iload hx hb dX12_copy_22 (lv_at hl 4 rfl) ?_
        refine lv_iadd hx hb dX12_copy_24 ?_
        refine lv_aload_n hx hb dX12_copy_25 rfl (lv_at hl 0 rfl) ?_
        refine lv_bipush (v := 16) hx hb dX12_copy_26 (by decide +kernel) ?_
        refine lv_iload_n hx hb dX12_copy_28 rfl (lv_at hl 2 rfl) ?_
        refine lv_imul hx hb dX12_copy_29 ?_
        refine lv_iload hx hb dX12_copy_30 (lv_at hl 4 rfl) ?_
        refine lv_iadd hx hb dX12_copy_32 ?_
        replace hr := iteS hr
        obtain ⟨hi33, hr⟩ := hr
        refine va_bald (f := d9_A0) hx hb hK hP 6 0 rfl rfl (inbV hi33) dX12_copy_33 ?_
        replace hr := iteS hr
        obtain ⟨hi34, hr⟩ := hr
        refine va_bast (f := d9_A0) hx hb hK hP hD hS 6 0 rfl rfl (inbV hi34) dX12_copy_34 (fun H locs hP hD hS => ?_)
        obtain ⟨w34, ew34, hP, hD⟩ : ∃ w34 : Nat → Int32, w34 = (upd d9_A0 (Int32.toNatClampNeg ((16 * p3) + y9_4)) (vp_nar .byte (d9_A0 (Int32.toNatClampNeg ((16 * p2) + y9_4))))) ∧ va_P (dC, dI) vwCl (mW h0 kB kI kZ q g (upF (upF F 14 w34) 15 w5)) H ∧ va_D A (mW h0 kB kI kZ q g (upF (upF F 14 w34) 15 w5)) := ⟨(upd d9_A0 (Int32.toNatClampNeg ((16 * p3) + y9_4)) (vp_nar .byte (d9_A0 (Int32.toNatClampNeg ((16 * p2) + y9_4))))), rfl, by first | exact sP_F14 hP (upF_in (by decide) upF_same) | exact sP_F14 hP (upF_in (by decide) rfl) | exact hP, by first | exact sD_F14 hD (upF_in (by decide) upF_same) | exact sD_F14 hD (upF_in (by decide) rfl) | exact hD⟩
        replace hr := vlS hr w34 ew34
        clear ew34
        refine lv_iinc (v := (y9_4 + 1)) (lv' := [(4, .int (y9_4 + 1)), (0, .ref (q 14)), (1, .ref (q 15)), (2, .int p2), (3, .int p3)]) hx hb dX12_copy_35 hl (k := 4) rfl rfl (by decide) rfl (fun ls hl => ?_)
        refine lv_goto (tgt := 9) hx hb dX12_copy_38 (by decide) ?_
        exact ih9 (y9_4 + 1) w34 H _ ls hr hP hD hS (lv_sub hl [1, 2, 3, 4, 0] rfl)
  first | exact lp9 NN 0 (F 14) H _ ls hr (sP_eq (mW_cg (by repeat (first | with_reducible rfl | with_reducible refine upd_cg ?_ | refine Eq.trans ?_ (upd_id rfl))) (by repeat (first | with_reducible rfl | with_reducible refine upF_cg ?_ | refine Eq.trans ?_ (upF_id rfl)))) hP) (sD_eq (mW_cg (by repeat (first | with_reducible rfl | with_reducible refine upd_cg ?_ | refine Eq.trans ?_ (upd_id rfl))) (by repeat (first | with_reducible rfl | with_reducible refine upF_cg ?_ | refine Eq.trans ?_ (upF_id rfl)))) hD) hS (lv_sub hl [1, 2, 3, 4, 0] rfl) | exact lp9 NN 0 (F 14) H _ ls hr hP hD hS (lv_sub hl [1, 2, 3, 4, 0] rfl)
set_option maxHeartbeats 4000000 in
set_option maxRecDepth 100000 in
theorem m_copy_14_15 (l : Launch) (dC : Nat → ClassId) (dI : Nat → Nat → Nat) (sz : Nat) (h0 : Nat) (kB kI kZ : ClassId) (q : Nat → Nat) (g : Nat → Int32) (F : Nat → Nat → Int32) (p2 : Int32) (p3 : Int32) (c_A0 : (Nat → Int32)) (c_A1 : (Nat → Int32)) (hr : f_copy (F 14) 17920 (F 15) 1120 p2 p3 = some (c_A0, c_A1)) : Met l yX12_copy vmX12_copy ({ frames := 2, cells := 0, slots := 0, locals := 60 } : Room) (va_Pc [.ref (q 14), .ref (q 15), .int p2, .int p3] (fun U => U.heap.size = sz ∧ va_P (dC, dI) vwCl (mW h0 kB kI kZ q g F) U.heap ∧ va_K (dC, dI) vwCl (mT kB kI kZ) U ∧ va_D (fun _ => True) (mW h0 kB kI kZ q g F))) (va_Qv (fun _ : Unit => True) (fun _ t => va_P (dC, dI) vwCl (mW h0 kB kI kZ q g (upF (upF F 14 c_A0) 15 c_A1)) t.heap ∧ va_K (dC, dI) vwCl (mT kB kI kZ) t ∧ va_D (va_A (mW h0 kB kI kZ q g F) sz) (mW h0 kB kI kZ q g (upF (upF F 14 c_A0) 15 c_A1))) (va_A (mW h0 kB kI kZ q g F) sz)) 0 0 (va_A (mW h0 kB kI kZ q g F) sz) := by
  refine Met.ofW (cc := cX12_copy) (maxL := 5) (ret := none) (by decide) rfl ?_
  intro p e s m args below meth c s₁ B hml hv
  obtain ⟨rfl, hsz, hP, hK, hD0⟩ := hv
  have hx := B.exec
  have hb := B.bytes
  have hrt := B.returns
  have hts := atoms_spec (ws := vmX12_copy) B.pre
  have hown : s.vm.findClass RX12 = some m.cls := findClass_of_methodNamed B.named
  subst hsz
  have hD := hD0.self (sz := s.heap.size)
  generalize hAe : va_A (mW h0 kB kI kZ q g F) s.heap.size = A at hD ⊢
  have hA : ∀ q : Nat, s.heap.size ≤ q → A q := fun q h => by rw [← hAe]; exact Or.inr h
  have hS : va_S A s.heap s.heap [] := va_S.rf
  have hl := lv_entry ([.ref (q 14), .ref (q 15), .int p2, .int p3]) (n := 5) (Nat.le_of_ble_eq_true rfl)
  rw [lg_entry_eq]
  generalize (lg_sl ([.ref (q 14), .ref (q 15), .int p2, .int p3]) ++ List.replicate (5 - (lg_sl ([.ref (q 14), .ref (q 15), .int p2, .int p3])).length) Slot.unset).toArray = ls at hl ⊢
  exact bm_copy_14_15 p2 p3 c_A0 c_A1 hr hx hb hml hown hts hA hK hP hD hS hl (fun pc ls c_A0z c_A1z H locs he hd hP hD hS => by cases he; exact W.vret hx hb hrt (fun t ht hW => ⟨⟨(), rfl, trivial, by rw [ht]; exact hP, va_K.moved hW.alike hK, hD⟩, hS.F ht⟩) hS.2.2 hd)
set_option maxHeartbeats 4000000 in
set_option maxRecDepth 100000 in
theorem bm_copy_18_19 {p : Program} {l : Launch} {e : Env} {s : State} {m : MethodId} {args : Array Value} {below : List Frame} {meth : Method} {c : Code} {Q : State → Prop} {A : Nat → Prop} {dC : Nat → ClassId} {dI : Nat → Nat → Nat} {h0 : Nat} {kB kI kZ : ClassId} {q : Nat → Nat} {g : Nat → Int32} {F : Nat → Nat → Int32} {H : Heap} {locs : List Loc} {ls : Array Slot} (p2 : Int32) (p3 : Int32) (c_A0 : (Nat → Int32)) (c_A1 : (Nat → Int32)) (hr : f_copy (F 18) 4480 (F 19) 280 p2 p3 = some (c_A0, c_A1)) (hx : p.tables.exec = Jvm.exec) (hb : c.code = cX12_copy) (hml : c.maxLocals = 5) (hown : s.vm.findClass RX12 = some m.cls) (hts : ∀ w ∈ vmX12_copy, w.before args s = true) (hA : ∀ q : Nat, s.heap.size ≤ q → A q) (hK : va_K (dC, dI) vwCl (mT kB kI kZ) s) (hP : va_P (dC, dI) vwCl (mW h0 kB kI kZ q g F) H) (hD : va_D A (mW h0 kB kI kZ q g F)) (hS : va_S A s.heap H locs) (hl : lv_has ls 5 [(0, .ref (q 18)), (1, .ref (q 19)), (2, .int p2), (3, .int p3)])
    (K : ∀ (pc : Nat) (ls : Array Slot) (c_A0z : (Nat → Int32)) (c_A1z : (Nat → Int32)) (H : Heap) (locs : List Loc), some (c_A0z, c_A1z) = some (c_A0, c_A1) → decode cX12_copy pc = .ok (.return_, 1) → va_P (dC, dI) vwCl (mW h0 kB kI kZ q g (upF (upF F 18 c_A0z) 19 c_A1z)) H → va_D A (mW h0 kB kI kZ q g (upF (upF F 18 c_A0z) 19 c_A1z)) → va_S A s.heap H locs → W p l e ({ frames := 2, cells := 0, slots := 0, locals := 60 } : Room) s m args below meth c H locs 0 0 Q (F0 m pc ls [])) : W p l e ({ frames := 2, cells := 0, slots := 0, locals := 60 } : Room) s m args below meth c H locs 0 0 Q (F0 m 0 ls []) := by
  unfold f_copy at hr
  refine lv_aload_n hx hb dX12_copy_0 rfl (lv_at hl 1 rfl) ?_
  refine lv_iload_n hx hb dX12_copy_1 rfl (lv_at hl 3 rfl) ?_
  refine lv_aload_n hx hb dX12_copy_2 rfl (lv_at hl 1 rfl) ?_
  refine lv_iload_n hx hb dX12_copy_3 rfl (lv_at hl 2 rfl) ?_
  replace hr := iteS hr
  obtain ⟨hi4, hr⟩ := hr
  refine va_iald (f := (F 19)) hx hb hK hP 11 1 rfl rfl (inbV hi4) dX12_copy_4 ?_
  replace hr := iteS hr
  obtain ⟨hi5, hr⟩ := hr
  refine va_iast (f := (F 19)) hx hb hK hP hD hS 11 1 rfl rfl (inbV hi5) dX12_copy_5 (fun H locs hP hD hS => ?_)
  obtain ⟨w5, ew5, hP, hD⟩ : ∃ w5 : Nat → Int32, w5 = (upd (F 19) (Int32.toNatClampNeg p3) ((F 19) (Int32.toNatClampNeg p2))) ∧ va_P (dC, dI) vwCl (mW h0 kB kI kZ q g (upF F 19 w5)) H ∧ va_D A (mW h0 kB kI kZ q g (upF F 19 w5)) := ⟨(upd (F 19) (Int32.toNatClampNeg p3) ((F 19) (Int32.toNatClampNeg p2))), rfl, by first | exact sP_F19 hP rfl | exact sP_F19 hP upF_same | exact hP, by first | exact sD_F19 hD rfl | exact sD_F19 hD upF_same | exact hD⟩
  replace hr := vlS hr w5 ew5
  clear ew5
  refine lv_iconst (v := 0) hx hb dX12_copy_6 (by decide +kernel) ?_
  refine lv_istore (lv' := [(4, .int 0), (0, .ref (q 18)), (1, .ref (q 19)), (2, .int p2), (3, .int p3)]) hx hb dX12_copy_7 hl (by decide) rfl (fun ls hl => ?_)
  have lp9 : ∀ (n9 : Nat) (y9_4 : Int32) (d9_A0 : (Nat → Int32)) (H : Heap) (locs : List Loc) (ls : Array Slot), L_copy_9 4480 280 p2 p3 w5 n9 y9_4 d9_A0 = some (c_A0, c_A1) → va_P (dC, dI) vwCl (mW h0 kB kI kZ q g (upF (upF F 18 d9_A0) 19 w5)) H → va_D A (mW h0 kB kI kZ q g (upF (upF F 18 d9_A0) 19 w5)) → va_S A s.heap H locs → lv_has ls 5 [(0, .ref (q 18)), (1, .ref (q 19)), (2, .int p2), (3, .int p3), (4, .int y9_4)] → W p l e ({ frames := 2, cells := 0, slots := 0, locals := 60 } : Room) s m args below meth c H locs 0 0 Q (F0 m 9 ls []) := by
    intro n9
    induction n9 with
    | zero => intro y9_4 d9_A0 H locs ls hr; exact nomatch (show none = some (c_A0, c_A1) from hr)
    | succ n9 ih9 =>
      intro y9_4 d9_A0 H locs ls hr hP hD hS hl
      replace hr : B_copy_9 4480 280 p2 p3 w5 (L_copy_9 4480 280 p2 p3 w5 n9) y9_4 d9_A0 = some (c_A0, c_A1) := hr
      unfold B_copy_9 at hr
      refine lv_iload hx hb dX12_copy_9 (lv_at hl 4 rfl) ?_
      refine lv_aload_n hx hb dX12_copy_11 rfl (lv_at hl 1 rfl) ?_
      refine lv_iload_n hx hb dX12_copy_12 rfl (lv_at hl 2 rfl) ?_
      replace hr := iteS hr
      obtain ⟨hi13, hr⟩ := hr
      refine va_iald (f := w5) hx hb hK hP 11 1 rfl rfl (inbV hi13) dX12_copy_13 ?_
      refine lv_icmp_ge (tgt := 41) hx hb dX12_copy_14 (by decide) (fun c14 => ?_) (fun c14 => ?_)
      · replace hr := iteT c14 hr
        first | exact K 41 ls _ _ H _ hr dX12_copy_41 (sP_eq (mW_cg (by repeat (first | with_reducible rfl | with_reducible refine upd_cg ?_ | refine Eq.trans ?_ (upd_id rfl))) (by repeat (first | with_reducible rfl | with_reducible refine upF_cg ?_ | refine Eq.trans ?_ (upF_id rfl)))) hP) (sD_eq (mW_cg (by repeat (first | with_reducible rfl | with_reducible refine upd_cg ?_ | refine Eq.trans ?_ (upd_id rfl))) (by repeat (first | with_reducible rfl | with_reducible refine upF_cg ?_ | refine Eq.trans ?_ (upF_id rfl)))) hD) hS | exact K 41 ls _ _ H _ hr dX12_copy_41 hP hD hS
      · replace hr := iteF c14 hr
        refine lv_aload_n hx hb dX12_copy_17 rfl (lv_at hl 0 rfl) ?_
        refine lv_bipush (v := 16) hx hb dX12_copy_18 (by decide +kernel) ?_
        refine lv_iload_n hx hb dX12_copy_20 rfl (lv_at hl 3 rfl) ?_
        refine lv_imul hx hb dX12_copy_21 ?_
        refine lv_iload hx hb dX12_copy_22 (lv_at hl 4 rfl) ?_
        refine lv_iadd hx hb dX12_copy_24 ?_
        refine lv_aload_n hx hb dX12_copy_25 rfl (lv_at hl 0 rfl) ?_
        refine lv_bipush (v := 16) hx hb dX12_copy_26 (by decide +kernel) ?_
        refine lv_iload_n hx hb dX12_copy_28 rfl (lv_at hl 2 rfl) ?_
        refine lv_imul hx hb dX12_copy_29 ?_
        refine lv_iload hx hb dX12_copy_30 (lv_at hl 4 rfl) ?_
        refine lv_iadd hx hb dX12_copy_32 ?_
        replace hr := iteS hr
        obtain ⟨hi33, hr⟩ := hr
        refine va_bald (f := d9_A0) hx hb hK hP 10 0 rfl rfl (inbV hi33) dX12_copy_33 ?_
        replace hr := iteS hr
        obtain ⟨hi34, hr⟩ := hr
        refine va_bast (f := d9_A0) hx hb hK hP hD hS 10 0 rfl rfl (inbV hi34) dX12_copy_34 (fun H locs hP hD hS => ?_)
        obtain ⟨w34, ew34, hP, hD⟩ : ∃ w34 : Nat → Int32, w34 = (upd d9_A0 (Int32.toNatClampNeg ((16 * p3) + y9_4)) (vp_nar .byte (d9_A0 (Int32.toNatClampNeg ((16 * p2) + y9_4))))) ∧ va_P (dC, dI) vwCl (mW h0 kB kI kZ q g (upF (upF F 18 w34) 19 w5)) H ∧ va_D A (mW h0 kB kI kZ q g (upF (upF F 18 w34) 19 w5)) := ⟨(upd d9_A0 (Int32.toNatClampNeg ((16 * p3) + y9_4)) (vp_nar .byte (d9_A0 (Int32.toNatClampNeg ((16 * p2) + y9_4))))), rfl, by first | exact sP_F18 hP (upF_in (by decide) upF_same) | exact sP_F18 hP (upF_in (by decide) rfl) | exact hP, by first | exact sD_F18 hD (upF_in (by decide) upF_same) | exact sD_F18 hD (upF_in (by decide) rfl) | exact hD⟩
        replace hr := vlS hr w34 ew34
        clear ew34
        refine lv_iinc (v := (y9_4 + 1)) (lv' := [(4, .int (y9_4 + 1)), (0, .ref (q 18)), (1, .ref (q 19)), (2, .int p2), (3, .int p3)]) hx hb dX12_copy_35 hl (k := 4) rfl rfl (by decide) rfl (fun ls hl => ?_)
        refine lv_goto (tgt := 9) hx hb dX12_copy_38 (by decide) ?_
        exact ih9 (y9_4 + 1) w34 H _ ls hr hP hD hS (lv_sub hl [1, 2, 3, 4, 0] rfl)
  first | exact lp9 NN 0 (F 18) H _ ls hr (sP_eq (mW_cg (by repeat (first | with_reducible rfl | with_reducible refine upd_cg ?_ | refine Eq.trans ?_ (upd_id rfl))) (by repeat (first | with_reducible rfl | with_reducible refine upF_cg ?_ | refine Eq.trans ?_ (upF_id rfl)))) hP) (sD_eq (mW_cg (by repeat (first | with_reducible rfl | with_reducible refine upd_cg ?_ | refine Eq.trans ?_ (upd_id rfl))) (by repeat (first | with_reducible rfl | with_reducible refine upF_cg ?_ | refine Eq.trans ?_ (upF_id rfl)))) hD) hS (lv_sub hl [1, 2, 3, 4, 0] rfl) | exact lp9 NN 0 (F 18) H _ ls hr hP hD hS (lv_sub hl [1, 2, 3, 4, 0] rfl)
set_option maxHeartbeats 4000000 in
set_option maxRecDepth 100000 in
theorem m_copy_18_19 (l : Launch) (dC : Nat → ClassId) (dI : Nat → Nat → Nat) (sz : Nat) (h0 : Nat) (kB kI kZ : ClassId) (q : Nat → Nat) (g : Nat → Int32) (F : Nat → Nat → Int32) (p2 : Int32) (p3 : Int32) (c_A0 : (Nat → Int32)) (c_A1 : (Nat → Int32)) (hr : f_copy (F 18) 4480 (F 19) 280 p2 p3 = some (c_A0, c_A1)) : Met l yX12_copy vmX12_copy ({ frames := 2, cells := 0, slots := 0, locals := 60 } : Room) (va_Pc [.ref (q 18), .ref (q 19), .int p2, .int p3] (fun U => U.heap.size = sz ∧ va_P (dC, dI) vwCl (mW h0 kB kI kZ q g F) U.heap ∧ va_K (dC, dI) vwCl (mT kB kI kZ) U ∧ va_D (fun _ => True) (mW h0 kB kI kZ q g F))) (va_Qv (fun _ : Unit => True) (fun _ t => va_P (dC, dI) vwCl (mW h0 kB kI kZ q g (upF (upF F 18 c_A0) 19 c_A1)) t.heap ∧ va_K (dC, dI) vwCl (mT kB kI kZ) t ∧ va_D (va_A (mW h0 kB kI kZ q g F) sz) (mW h0 kB kI kZ q g (upF (upF F 18 c_A0) 19 c_A1))) (va_A (mW h0 kB kI kZ q g F) sz)) 0 0 (va_A (mW h0 kB kI kZ q g F) sz) := by
  refine Met.ofW (cc := cX12_copy) (maxL := 5) (ret := none) (by decide) rfl ?_
  intro p e s m args below meth c s₁ B hml hv
  obtain ⟨rfl, hsz, hP, hK, hD0⟩ := hv
  have hx := B.exec
  have hb := B.bytes
  have hrt := B.returns
  have hts := atoms_spec (ws := vmX12_copy) B.pre
  have hown : s.vm.findClass RX12 = some m.cls := findClass_of_methodNamed B.named
  subst hsz
  have hD := hD0.self (sz := s.heap.size)
  generalize hAe : va_A (mW h0 kB kI kZ q g F) s.heap.size = A at hD ⊢
  have hA : ∀ q : Nat, s.heap.size ≤ q → A q := fun q h => by rw [← hAe]; exact Or.inr h
  have hS : va_S A s.heap s.heap [] := va_S.rf
  have hl := lv_entry ([.ref (q 18), .ref (q 19), .int p2, .int p3]) (n := 5) (Nat.le_of_ble_eq_true rfl)
  rw [lg_entry_eq]
  generalize (lg_sl ([.ref (q 18), .ref (q 19), .int p2, .int p3]) ++ List.replicate (5 - (lg_sl ([.ref (q 18), .ref (q 19), .int p2, .int p3])).length) Slot.unset).toArray = ls at hl ⊢
  exact bm_copy_18_19 p2 p3 c_A0 c_A1 hr hx hb hml hown hts hA hK hP hD hS hl (fun pc ls c_A0z c_A1z H locs he hd hP hD hS => by cases he; exact W.vret hx hb hrt (fun t ht hW => ⟨⟨(), rfl, trivial, by rw [ht]; exact hP, va_K.moved hW.alike hK, hD⟩, hS.F ht⟩) hS.2.2 hd)
set_option maxHeartbeats 4000000 in
set_option maxRecDepth 100000 in
theorem bm_copy_20_21 {p : Program} {l : Launch} {e : Env} {s : State} {m : MethodId} {args : Array Value} {below : List Frame} {meth : Method} {c : Code} {Q : State → Prop} {A : Nat → Prop} {dC : Nat → ClassId} {dI : Nat → Nat → Nat} {h0 : Nat} {kB kI kZ : ClassId} {q : Nat → Nat} {g : Nat → Int32} {F : Nat → Nat → Int32} {H : Heap} {locs : List Loc} {ls : Array Slot} (p2 : Int32) (p3 : Int32) (c_A0 : (Nat → Int32)) (c_A1 : (Nat → Int32)) (hr : f_copy (F 20) 8960 (F 21) 560 p2 p3 = some (c_A0, c_A1)) (hx : p.tables.exec = Jvm.exec) (hb : c.code = cX12_copy) (hml : c.maxLocals = 5) (hown : s.vm.findClass RX12 = some m.cls) (hts : ∀ w ∈ vmX12_copy, w.before args s = true) (hA : ∀ q : Nat, s.heap.size ≤ q → A q) (hK : va_K (dC, dI) vwCl (mT kB kI kZ) s) (hP : va_P (dC, dI) vwCl (mW h0 kB kI kZ q g F) H) (hD : va_D A (mW h0 kB kI kZ q g F)) (hS : va_S A s.heap H locs) (hl : lv_has ls 5 [(0, .ref (q 20)), (1, .ref (q 21)), (2, .int p2), (3, .int p3)])
    (K : ∀ (pc : Nat) (ls : Array Slot) (c_A0z : (Nat → Int32)) (c_A1z : (Nat → Int32)) (H : Heap) (locs : List Loc), some (c_A0z, c_A1z) = some (c_A0, c_A1) → decode cX12_copy pc = .ok (.return_, 1) → va_P (dC, dI) vwCl (mW h0 kB kI kZ q g (upF (upF F 20 c_A0z) 21 c_A1z)) H → va_D A (mW h0 kB kI kZ q g (upF (upF F 20 c_A0z) 21 c_A1z)) → va_S A s.heap H locs → W p l e ({ frames := 2, cells := 0, slots := 0, locals := 60 } : Room) s m args below meth c H locs 0 0 Q (F0 m pc ls [])) : W p l e ({ frames := 2, cells := 0, slots := 0, locals := 60 } : Room) s m args below meth c H locs 0 0 Q (F0 m 0 ls []) := by
  unfold f_copy at hr
  refine lv_aload_n hx hb dX12_copy_0 rfl (lv_at hl 1 rfl) ?_
  refine lv_iload_n hx hb dX12_copy_1 rfl (lv_at hl 3 rfl) ?_
  refine lv_aload_n hx hb dX12_copy_2 rfl (lv_at hl 1 rfl) ?_
  refine lv_iload_n hx hb dX12_copy_3 rfl (lv_at hl 2 rfl) ?_
  replace hr := iteS hr
  obtain ⟨hi4, hr⟩ := hr
  refine va_iald (f := (F 21)) hx hb hK hP 13 1 rfl rfl (inbV hi4) dX12_copy_4 ?_
  replace hr := iteS hr
  obtain ⟨hi5, hr⟩ := hr
  refine va_iast (f := (F 21)) hx hb hK hP hD hS 13 1 rfl rfl (inbV hi5) dX12_copy_5 (fun H locs hP hD hS => ?_)
  obtain ⟨w5, ew5, hP, hD⟩ : ∃ w5 : Nat → Int32, w5 = (upd (F 21) (Int32.toNatClampNeg p3) ((F 21) (Int32.toNatClampNeg p2))) ∧ va_P (dC, dI) vwCl (mW h0 kB kI kZ q g (upF F 21 w5)) H ∧ va_D A (mW h0 kB kI kZ q g (upF F 21 w5)) := ⟨(upd (F 21) (Int32.toNatClampNeg p3) ((F 21) (Int32.toNatClampNeg p2))), rfl, by first | exact sP_F21 hP rfl | exact sP_F21 hP upF_same | exact hP, by first | exact sD_F21 hD rfl | exact sD_F21 hD upF_same | exact hD⟩
  replace hr := vlS hr w5 ew5
  clear ew5
  refine lv_iconst (v := 0) hx hb dX12_copy_6 (by decide +kernel) ?_
  refine lv_istore (lv' := [(4, .int 0), (0, .ref (q 20)), (1, .ref (q 21)), (2, .int p2), (3, .int p3)]) hx hb dX12_copy_7 hl (by decide) rfl (fun ls hl => ?_)
  have lp9 : ∀ (n9 : Nat) (y9_4 : Int32) (d9_A0 : (Nat → Int32)) (H : Heap) (locs : List Loc) (ls : Array Slot), L_copy_9 8960 560 p2 p3 w5 n9 y9_4 d9_A0 = some (c_A0, c_A1) → va_P (dC, dI) vwCl (mW h0 kB kI kZ q g (upF (upF F 20 d9_A0) 21 w5)) H → va_D A (mW h0 kB kI kZ q g (upF (upF F 20 d9_A0) 21 w5)) → va_S A s.heap H locs → lv_has ls 5 [(0, .ref (q 20)), (1, .ref (q 21)), (2, .int p2), (3, .int p3), (4, .int y9_4)] → W p l e ({ frames := 2, cells := 0, slots := 0, locals := 60 } : Room) s m args below meth c H locs 0 0 Q (F0 m 9 ls []) := by
    intro n9
    induction n9 with
    | zero => intro y9_4 d9_A0 H locs ls hr; exact nomatch (show none = some (c_A0, c_A1) from hr)
    | succ n9 ih9 =>
      intro y9_4 d9_A0 H locs ls hr hP hD hS hl
      replace hr : B_copy_9 8960 560 p2 p3 w5 (L_copy_9 8960 560 p2 p3 w5 n9) y9_4 d9_A0 = some (c_A0, c_A1) := hr
      unfold B_copy_9 at hr
      refine lv_iload hx hb dX12_copy_9 (lv_at hl 4 rfl) ?_
      refine lv_aload_n hx hb dX12_copy_11 rfl (lv_at hl 1 rfl) ?_
      refine lv_iload_n hx hb dX12_copy_12 rfl (lv_at hl 2 rfl) ?_
      replace hr := iteS hr
      obtain ⟨hi13, hr⟩ := hr
      refine va_iald (f := w5) hx hb hK hP 13 1 rfl rfl (inbV hi13) dX12_copy_13 ?_
      refine lv_icmp_ge (tgt := 41) hx hb dX12_copy_14 (by decide) (fun c14 => ?_) (fun c14 => ?_)
      · replace hr := iteT c14 hr
        first | exact K 41 ls _ _ H _ hr dX12_copy_41 (sP_eq (mW_cg (by repeat (first | with_reducible rfl | with_reducible refine upd_cg ?_ | refine Eq.trans ?_ (upd_id rfl))) (by repeat (first | with_reducible rfl | with_reducible refine upF_cg ?_ | refine Eq.trans ?_ (upF_id rfl)))) hP) (sD_eq (mW_cg (by repeat (first | with_reducible rfl | with_reducible refine upd_cg ?_ | refine Eq.trans ?_ (upd_id rfl))) (by repeat (first | with_reducible rfl | with_reducible refine upF_cg ?_ | refine Eq.trans ?_ (upF_id rfl)))) hD) hS | exact K 41 ls _ _ H _ hr dX12_copy_41 hP hD hS
      · replace hr := iteF c14 hr
        refine lv_aload_n hx hb dX12_copy_17 rfl (lv_at hl 0 rfl) ?_
        refine lv_bipush (v := 16) hx hb dX12_copy_18 (by decide +kernel) ?_
        refine lv_iload_n hx hb dX12_copy_20 rfl (lv_at hl 3 rfl) ?_
        refine lv_imul hx hb dX12_copy_21 ?_
        refine lv_iload hx hb dX12_copy_22 (lv_at hl 4 rfl) ?_
        refine lv_iadd hx hb dX12_copy_24 ?_
        refine lv_aload_n hx hb dX12_copy_25 rfl (lv_at hl 0 rfl) ?_
        refine lv_bipush (v := 16) hx hb dX12_copy_26 (by decide +kernel) ?_
        refine lv_iload_n hx hb dX12_copy_28 rfl (lv_at hl 2 rfl) ?_
        refine lv_imul hx hb dX12_copy_29 ?_
        refine lv_iload hx hb dX12_copy_30 (lv_at hl 4 rfl) ?_
        refine lv_iadd hx hb dX12_copy_32 ?_
        replace hr := iteS hr
        obtain ⟨hi33, hr⟩ := hr
        refine va_bald (f := d9_A0) hx hb hK hP 12 0 rfl rfl (inbV hi33) dX12_copy_33 ?_
        replace hr := iteS hr
        obtain ⟨hi34, hr⟩ := hr
        refine va_bast (f := d9_A0) hx hb hK hP hD hS 12 0 rfl rfl (inbV hi34) dX12_copy_34 (fun H locs hP hD hS => ?_)
        obtain ⟨w34, ew34, hP, hD⟩ : ∃ w34 : Nat → Int32, w34 = (upd d9_A0 (Int32.toNatClampNeg ((16 * p3) + y9_4)) (vp_nar .byte (d9_A0 (Int32.toNatClampNeg ((16 * p2) + y9_4))))) ∧ va_P (dC, dI) vwCl (mW h0 kB kI kZ q g (upF (upF F 20 w34) 21 w5)) H ∧ va_D A (mW h0 kB kI kZ q g (upF (upF F 20 w34) 21 w5)) := ⟨(upd d9_A0 (Int32.toNatClampNeg ((16 * p3) + y9_4)) (vp_nar .byte (d9_A0 (Int32.toNatClampNeg ((16 * p2) + y9_4))))), rfl, by first | exact sP_F20 hP (upF_in (by decide) upF_same) | exact sP_F20 hP (upF_in (by decide) rfl) | exact hP, by first | exact sD_F20 hD (upF_in (by decide) upF_same) | exact sD_F20 hD (upF_in (by decide) rfl) | exact hD⟩
        replace hr := vlS hr w34 ew34
        clear ew34
        refine lv_iinc (v := (y9_4 + 1)) (lv' := [(4, .int (y9_4 + 1)), (0, .ref (q 20)), (1, .ref (q 21)), (2, .int p2), (3, .int p3)]) hx hb dX12_copy_35 hl (k := 4) rfl rfl (by decide) rfl (fun ls hl => ?_)
        refine lv_goto (tgt := 9) hx hb dX12_copy_38 (by decide) ?_
        exact ih9 (y9_4 + 1) w34 H _ ls hr hP hD hS (lv_sub hl [1, 2, 3, 4, 0] rfl)
  first | exact lp9 NN 0 (F 20) H _ ls hr (sP_eq (mW_cg (by repeat (first | with_reducible rfl | with_reducible refine upd_cg ?_ | refine Eq.trans ?_ (upd_id rfl))) (by repeat (first | with_reducible rfl | with_reducible refine upF_cg ?_ | refine Eq.trans ?_ (upF_id rfl)))) hP) (sD_eq (mW_cg (by repeat (first | with_reducible rfl | with_reducible refine upd_cg ?_ | refine Eq.trans ?_ (upd_id rfl))) (by repeat (first | with_reducible rfl | with_reducible refine upF_cg ?_ | refine Eq.trans ?_ (upF_id rfl)))) hD) hS (lv_sub hl [1, 2, 3, 4, 0] rfl) | exact lp9 NN 0 (F 20) H _ ls hr hP hD hS (lv_sub hl [1, 2, 3, 4, 0] rfl)
set_option maxHeartbeats 4000000 in
set_option maxRecDepth 100000 in
theorem m_copy_20_21 (l : Launch) (dC : Nat → ClassId) (dI : Nat → Nat → Nat) (sz : Nat) (h0 : Nat) (kB kI kZ : ClassId) (q : Nat → Nat) (g : Nat → Int32) (F : Nat → Nat → Int32) (p2 : Int32) (p3 : Int32) (c_A0 : (Nat → Int32)) (c_A1 : (Nat → Int32)) (hr : f_copy (F 20) 8960 (F 21) 560 p2 p3 = some (c_A0, c_A1)) : Met l yX12_copy vmX12_copy ({ frames := 2, cells := 0, slots := 0, locals := 60 } : Room) (va_Pc [.ref (q 20), .ref (q 21), .int p2, .int p3] (fun U => U.heap.size = sz ∧ va_P (dC, dI) vwCl (mW h0 kB kI kZ q g F) U.heap ∧ va_K (dC, dI) vwCl (mT kB kI kZ) U ∧ va_D (fun _ => True) (mW h0 kB kI kZ q g F))) (va_Qv (fun _ : Unit => True) (fun _ t => va_P (dC, dI) vwCl (mW h0 kB kI kZ q g (upF (upF F 20 c_A0) 21 c_A1)) t.heap ∧ va_K (dC, dI) vwCl (mT kB kI kZ) t ∧ va_D (va_A (mW h0 kB kI kZ q g F) sz) (mW h0 kB kI kZ q g (upF (upF F 20 c_A0) 21 c_A1))) (va_A (mW h0 kB kI kZ q g F) sz)) 0 0 (va_A (mW h0 kB kI kZ q g F) sz) := by
  refine Met.ofW (cc := cX12_copy) (maxL := 5) (ret := none) (by decide) rfl ?_
  intro p e s m args below meth c s₁ B hml hv
  obtain ⟨rfl, hsz, hP, hK, hD0⟩ := hv
  have hx := B.exec
  have hb := B.bytes
  have hrt := B.returns
  have hts := atoms_spec (ws := vmX12_copy) B.pre
  have hown : s.vm.findClass RX12 = some m.cls := findClass_of_methodNamed B.named
  subst hsz
  have hD := hD0.self (sz := s.heap.size)
  generalize hAe : va_A (mW h0 kB kI kZ q g F) s.heap.size = A at hD ⊢
  have hA : ∀ q : Nat, s.heap.size ≤ q → A q := fun q h => by rw [← hAe]; exact Or.inr h
  have hS : va_S A s.heap s.heap [] := va_S.rf
  have hl := lv_entry ([.ref (q 20), .ref (q 21), .int p2, .int p3]) (n := 5) (Nat.le_of_ble_eq_true rfl)
  rw [lg_entry_eq]
  generalize (lg_sl ([.ref (q 20), .ref (q 21), .int p2, .int p3]) ++ List.replicate (5 - (lg_sl ([.ref (q 20), .ref (q 21), .int p2, .int p3])).length) Slot.unset).toArray = ls at hl ⊢
  exact bm_copy_20_21 p2 p3 c_A0 c_A1 hr hx hb hml hown hts hA hK hP hD hS hl (fun pc ls c_A0z c_A1z H locs he hd hP hD hS => by cases he; exact W.vret hx hb hrt (fun t ht hW => ⟨⟨(), rfl, trivial, by rw [ht]; exact hP, va_K.moved hW.alike hK, hD⟩, hS.F ht⟩) hS.2.2 hd)
set_option maxHeartbeats 4000000 in
set_option maxRecDepth 100000 in
theorem bm_take_18_19 {p : Program} {l : Launch} {e : Env} {s : State} {m : MethodId} {args : Array Value} {below : List Frame} {meth : Method} {c : Code} {Q : State → Prop} {A : Nat → Prop} {dC : Nat → ClassId} {dI : Nat → Nat → Nat} {h0 : Nat} {kB kI kZ : ClassId} {q : Nat → Nat} {g : Nat → Int32} {F : Nat → Nat → Int32} {H : Heap} {locs : List Loc} {ls : Array Slot} (p2 : Int32) (p3 : Int32) (r : Int32) (c_g7 : Int32) (c_g8 : Int32) (c_A0 : (Nat → Int32)) (c_A1 : (Nat → Int32)) (hr : f_take g F (F 18) 4480 (F 19) 280 p2 p3 = some (r, c_g7, c_g8, c_A0, c_A1)) (hx : p.tables.exec = Jvm.exec) (hb : c.code = cX12_take) (hml : c.maxLocals = 7) (hown : s.vm.findClass RX12 = some m.cls) (hts : ∀ w ∈ vmX12_take, w.before args s = true) (hA : ∀ q : Nat, s.heap.size ≤ q → A q) (hK : va_K (dC, dI) vwCl (mT kB kI kZ) s) (hP : va_P (dC, dI) vwCl (mW h0 kB kI kZ q g F) H) (hD : va_D A (mW h0 kB kI kZ q g F)) (hS : va_S A s.heap H locs) (hl : lv_has ls 7 [(0, .ref h0), (1, .ref (q 18)), (2, .ref (q 19)), (3, .int p2), (4, .int p3)])
    (K : ∀ (pc : Nat) (ls : Array Slot) (rz : Int32) (c_g7z : Int32) (c_g8z : Int32) (c_A0z : (Nat → Int32)) (c_A1z : (Nat → Int32)) (H : Heap) (locs : List Loc), some (rz, c_g7z, c_g8z, c_A0z, c_A1z) = some (r, c_g7, c_g8, c_A0, c_A1) → is01 rz → decode cX12_take pc = .ok (.ireturn, 1) → va_P (dC, dI) vwCl (mW h0 kB kI kZ q (upd (upd g 7 c_g7z) 8 c_g8z) (upF (upF F 18 c_A0z) 19 c_A1z)) H → va_D A (mW h0 kB kI kZ q (upd (upd g 7 c_g7z) 8 c_g8z) (upF (upF F 18 c_A0z) 19 c_A1z)) → va_S A s.heap H locs → W p l e ({ frames := 3, cells := 0, slots := 0, locals := 81 } : Room) s m args below meth c H locs 0 0 Q (F0 m pc ls [.int rz])) : W p l e ({ frames := 3, cells := 0, slots := 0, locals := 81 } : Room) s m args below meth c H locs 0 0 Q (F0 m 0 ls []) := by
  unfold f_take at hr
  refine lv_aload_n hx hb dX12_take_0 rfl (lv_at hl 0 rfl) ?_
  refine va_get (D := (dC, dI)) (ci := 12) (v := .int (g 3)) (C := RX12) (T := TX12) (N := 71) hx hb hts inX12 hown hK hP 0 rfl rfl 3 (by decide) (hts (.fieldLink RX12 180 "SpellTurnerModel" "sort" "I") im_65) (fun _ h9 => h9) rfl dX12_take_1 ?_
  refine lv_iconst (v := 2) hx hb dX12_take_4 (by decide +kernel) ?_
  refine lv_icmp_eq (tgt := 14) hx hb dX12_take_5 (by decide) (fun c5 => ?_) (fun c5 => ?_)
  · replace hr := iteT c5 hr
    refine lv_aload_n hx hb dX12_take_14 rfl (lv_at hl 0 rfl) ?_
    refine va_get (D := (dC, dI)) (ci := 12) (v := .int (g 6)) (C := RX12) (T := TX12) (N := 71) hx hb hts inX12 hown hK hP 0 rfl rfl 6 (by decide) (hts (.fieldLink RX12 174 "SpellTurnerModel" "end" "I") im_66) (fun _ h9 => h9) rfl dX12_take_15 ?_
    refine lv_aload_n hx hb dX12_take_18 rfl (lv_at hl 0 rfl) ?_
    refine va_get (D := (dC, dI)) (ci := 12) (v := .int (g 5)) (C := RX12) (T := TX12) (N := 71) hx hb hts inX12 hown hK hP 0 rfl rfl 5 (by decide) (hts (.fieldLink RX12 177 "SpellTurnerModel" "at" "I") im_37) (fun _ h9 => h9) rfl dX12_take_19 ?_
    refine lv_isub hx hb dX12_take_22 ?_
    refine lv_iconst (v := 2) hx hb dX12_take_23 (by decide +kernel) ?_
    refine lv_isub hx hb dX12_take_24 ?_
    refine lv_topi (fun x25 ex25 => ?_)
    replace hr := vlS hr x25 ex25
    clear ex25
    refine lv_istore (lv' := [(5, .int x25), (0, .ref h0), (1, .ref (q 18)), (2, .ref (q 19)), (3, .int p2), (4, .int p3)]) hx hb dX12_take_25 hl (by decide) rfl (fun ls hl => ?_)
    refine lv_iload hx hb dX12_take_27 (lv_at hl 5 rfl) ?_
    replace hr := jnS hr
    obtain ⟨j43, hj43, hr⟩ := hr
    have Jj43 : ∀ (H : Heap) (locs : List Loc) (ls : Array Slot), j43 () = some (r, c_g7, c_g8, c_A0, c_A1) → va_P (dC, dI) vwCl (mW h0 kB kI kZ q g F) H → va_D A (mW h0 kB kI kZ q g F) → va_S A s.heap H locs → lv_has ls 7 [(0, .ref h0), (1, .ref (q 18)), (2, .ref (q 19)), (3, .int p2), (5, .int x25)] → W p l e ({ frames := 3, cells := 0, slots := 0, locals := 81 } : Room) s m args below meth c H locs 0 0 Q (F0 m 43 ls []) := by
      intro H locs ls hr hP hD hS hl
      rw [hj43] at hr
      refine lv_iconst (v := 0) hx hb dX12_take_43 (by decide +kernel) ?_
      refine lv_istore (lv' := [(6, .int 0), (0, .ref h0), (1, .ref (q 18)), (2, .ref (q 19)), (3, .int p2), (5, .int x25)]) hx hb dX12_take_44 hl (by decide) rfl (fun ls hl => ?_)
      have lp46 : ∀ (n46 : Nat) (y46_6 : Int32) (d46_A0 : (Nat → Int32)) (H : Heap) (locs : List Loc) (ls : Array Slot), L_take_46 g F 4480 (F 19) 280 p2 x25 n46 y46_6 d46_A0 = some (r, c_g7, c_g8, c_A0, c_A1) → va_P (dC, dI) vwCl (mW h0 kB kI kZ q g (upF F 18 d46_A0)) H → va_D A (mW h0 kB kI kZ q g (upF F 18 d46_A0)) → va_S A s.heap H locs → lv_has ls 7 [(0, .ref h0), (1, .ref (q 18)), (2, .ref (q 19)), (3, .int p2), (5, .int x25), (6, .int y46_6)] → W p l e ({ frames := 3, cells := 0, slots := 0, locals := 81 } : Room) s m args below meth c H locs 0 0 Q (F0 m 46 ls []) := by
        intro n46
        induction n46 with
        | zero => intro y46_6 d46_A0 H locs ls hr; exact nomatch (show none = some (r, c_g7, c_g8, c_A0, c_A1) from hr)
        | succ n46 ih46 =>
          intro y46_6 d46_A0 H locs ls hr hP hD hS hl
          replace hr : B_take_46 g F 4480 (F 19) 280 p2 x25 (L_take_46 g F 4480 (F 19) 280 p2 x25 n46) y46_6 d46_A0 = some (r, c_g7, c_g8, c_A0, c_A1) := hr
          unfold B_take_46 at hr
          refine lv_iload hx hb dX12_take_46 (lv_at hl 5 rfl) ?_
          refine lv_iload hx hb dX12_take_48 (lv_at hl 4 rfl) ?_
          refine lv_icmp_ge (tgt := 82) hx hb dX12_take_50 (by decide) (fun c50 => ?_) (fun c50 => ?_)
          · replace hr := iteT c50 hr
            refine lv_aload_n hx hb dX12_take_82 rfl (lv_at hl 2 rfl) ?_
            refine lv_iload_n hx hb dX12_take_83 rfl (lv_at hl 3 rfl) ?_
            refine lv_iload hx hb dX12_take_84 (lv_at hl 4 rfl) ?_
            replace hr := iteS hr
            obtain ⟨hi86, hr⟩ := hr
            refine va_iast (f := (F 19)) hx hb hK hP hD hS 11 1 rfl rfl (inbV hi86) dX12_take_86 (fun H locs hP hD hS => ?_)
            obtain ⟨w86, ew86, hP, hD⟩ : ∃ w86 : Nat → Int32, w86 = (upd (F 19) (Int32.toNatClampNeg p2) x25) ∧ va_P (dC, dI) vwCl (mW h0 kB kI kZ q g (upF (upF F 18 d46_A0) 19 w86)) H ∧ va_D A (mW h0 kB kI kZ q g (upF (upF F 18 d46_A0) 19 w86)) := ⟨(upd (F 19) (Int32.toNatClampNeg p2) x25), rfl, by first | exact sP_F19 hP rfl | exact sP_F19 hP upF_same | exact hP, by first | exact sD_F19 hD rfl | exact sD_F19 hD upF_same | exact hD⟩
            replace hr := vlS hr w86 ew86
            clear ew86
            refine lv_iconst (v := 1) hx hb dX12_take_87 (by decide +kernel) ?_
            first | exact K 88 ls _ _ _ _ _ H _ hr (by decide) dX12_take_88 (sP_eq (mW_cg (by repeat (first | with_reducible rfl | with_reducible refine upd_cg ?_ | refine Eq.trans ?_ (upd_id rfl))) (by repeat (first | with_reducible rfl | with_reducible refine upF_cg ?_ | refine Eq.trans ?_ (upF_id rfl)))) hP) (sD_eq (mW_cg (by repeat (first | with_reducible rfl | with_reducible refine upd_cg ?_ | refine Eq.trans ?_ (upd_id rfl))) (by repeat (first | with_reducible rfl | with_reducible refine upF_cg ?_ | refine Eq.trans ?_ (upF_id rfl)))) hD) hS | exact K 88 ls _ _ _ _ _ H _ hr (by decide) dX12_take_88 hP hD hS
          · replace hr := iteF c50 hr
            refine lv_aload_n hx hb dX12_take_53 rfl (lv_at hl 1 rfl) ?_
            refine lv_bipush (v := 16) hx hb dX12_take_54 (by decide +kernel) ?_
            refine lv_iload_n hx hb dX12_take_56 rfl (lv_at hl 3 rfl) ?_
            refine lv_imul hx hb dX12_take_57 ?_
            refine lv_iload hx hb dX12_take_58 (lv_at hl 5 rfl) ?_
            refine lv_iadd hx hb dX12_take_60 ?_
            refine lv_aload_n hx hb dX12_take_61 rfl (lv_at hl 0 rfl) ?_
            refine va_get (D := (dC, dI)) (ci := 12) (v := .ref (q 0)) (C := RX12) (T := TX12) (N := 71) hx hb hts inX12 hown hK hP 0 rfl rfl 0 (by decide) (hts (.fieldLink RX12 7 "SpellTurnerModel" "tape" "[B") im_34) (fun _ h9 => h9) rfl dX12_take_62 ?_
            refine lv_aload_n hx hb dX12_take_65 rfl (lv_at hl 0 rfl) ?_
            refine va_get (D := (dC, dI)) (ci := 12) (v := .int (g 5)) (C := RX12) (T := TX12) (N := 71) hx hb hts inX12 hown hK hP 0 rfl rfl 5 (by decide) (hts (.fieldLink RX12 177 "SpellTurnerModel" "at" "I") im_37) (fun _ h9 => h9) rfl dX12_take_66 ?_
            refine lv_iconst (v := 1) hx hb dX12_take_69 (by decide +kernel) ?_
            refine lv_iadd hx hb dX12_take_70 ?_
            refine lv_iload hx hb dX12_take_71 (lv_at hl 5 rfl) ?_
            refine lv_iadd hx hb dX12_take_73 ?_
            replace hr := iteS hr
            obtain ⟨hi74, hr⟩ := hr
            refine va_bald (f := (F 0)) hx hb hK hP 1 0 rfl rfl (inbV hi74) dX12_take_74 ?_
            replace hr := iteS hr
            obtain ⟨hi75, hr⟩ := hr
            refine va_bast (f := d46_A0) hx hb hK hP hD hS 10 0 rfl rfl (inbV hi75) dX12_take_75 (fun H locs hP hD hS => ?_)
            obtain ⟨w75, ew75, hP, hD⟩ : ∃ w75 : Nat → Int32, w75 = (upd d46_A0 (Int32.toNatClampNeg ((16 * p2) + y46_6)) (vp_nar .byte ((F 0) (Int32.toNatClampNeg (((g 5) + 1) + y46_6))))) ∧ va_P (dC, dI) vwCl (mW h0 kB kI kZ q g (upF F 18 w75)) H ∧ va_D A (mW h0 kB kI kZ q g (upF F 18 w75)) := ⟨(upd d46_A0 (Int32.toNatClampNeg ((16 * p2) + y46_6)) (vp_nar .byte ((F 0) (Int32.toNatClampNeg (((g 5) + 1) + y46_6))))), rfl, by first | exact sP_F18 hP upF_same | exact sP_F18 hP rfl | exact hP, by first | exact sD_F18 hD upF_same | exact sD_F18 hD rfl | exact hD⟩
            replace hr := vlS hr w75 ew75
            clear ew75
            refine lv_iinc (v := (y46_6 + 1)) (lv' := [(6, .int (y46_6 + 1)), (0, .ref h0), (1, .ref (q 18)), (2, .ref (q 19)), (3, .int p2), (5, .int x25)]) hx hb dX12_take_76 hl (k := 5) rfl rfl (by decide) rfl (fun ls hl => ?_)
            refine lv_goto (tgt := 46) hx hb dX12_take_79 (by decide) ?_
            exact ih46 (y46_6 + 1) w75 H _ ls hr hP hD hS (lv_sub hl [1, 2, 3, 4, 5, 0] rfl)
      first | exact lp46 NN 0 (F 18) H _ ls hr (sP_eq (mW_cg (by repeat (first | with_reducible rfl | with_reducible refine upd_cg ?_ | refine Eq.trans ?_ (upd_id rfl))) (by repeat (first | with_reducible rfl | with_reducible refine upF_cg ?_ | refine Eq.trans ?_ (upF_id rfl)))) hP) (sD_eq (mW_cg (by repeat (first | with_reducible rfl | with_reducible refine upd_cg ?_ | refine Eq.trans ?_ (upd_id rfl))) (by repeat (first | with_reducible rfl | with_reducible refine upF_cg ?_ | refine Eq.trans ?_ (upF_id rfl)))) hD) hS (lv_sub hl [1, 2, 3, 4, 5, 0] rfl) | exact lp46 NN 0 (F 18) H _ ls hr hP hD hS (lv_sub hl [1, 2, 3, 4, 5, 0] rfl)
    refine lv_if_eq (tgt := 43) hx hb dX12_take_29 (by decide) (fun c29 => ?_) (fun c29 => ?_)
    · replace hr := iteT c29 hr
      exact Jj43 H _ ls hr hP hD hS (lv_sub hl [1, 2, 3, 4, 0] rfl)
    · replace hr := iteF c29 hr
      refine lv_iload hx hb dX12_take_32 (lv_at hl 0 rfl) ?_
      refine lv_if_ne (tgt := 43) hx hb dX12_take_34 (by decide) (fun c34 => ?_) (fun c34 => ?_)
      · replace hr := iteF c34 hr
        exact Jj43 H _ ls hr hP hD hS (lv_sub hl [1, 2, 3, 4, 0] rfl)
      · replace hr := iteT c34 hr
        refine lv_aload_n hx hb dX12_take_37 rfl (lv_at hl 1 rfl) ?_
        refine lv_iconst (v := 2) hx hb dX12_take_38 (by decide +kernel) ?_
        replace hr := b3S hr
        obtain ⟨r39z, c39_g7, c39_g8, hc39, hr⟩ := hr
        have hFc := fr_all hD hS hA
        refine va_calli (va_runV (As := [.int 2]) (rest := []) ⟨hx, hb, hml, hown, hts⟩ (m_wrong l dC dI H.size h0 kB kI kZ q g F 2 r39z c39_g7 c39_g8 hc39) (cwV 1 hts gw_X12_wrong_197 rfl rfl rfl (by decide +kernel) ⟨Nat.le_of_ble_eq_true rfl, Nat.le_of_ble_eq_true rfl⟩) ⟨fun a U g mk q => by obtain ⟨q0, q1, qP, qK, qD⟩ := q; exact ⟨q0, q1, qP, va_K.moved (u := U) (U := U.calling g mk a) (Vm.Alike.refl U.vm) qK, qD⟩, va_recv hK hP (ci := 12) (q0 := 0) rfl rfl, fun U hU hW => ⟨rfl, by rw [hU], by rw [hU]; exact hP, va_K.moved hW.alike hK, hD.weaken (fun _ _ _ _ => trivial)⟩⟩ rfl rfl hl.1 rfl (lv_room (Nat.le_of_ble_eq_true rfl)) dX12_take_39 ⟨Nat.le_of_ble_eq_true rfl, Nat.le_of_ble_eq_true rfl⟩) hS (fun q _ h => hFc q h) hFc (fun r39 u t H1 locs ht hvm hw hB hz1 hk1 hS => ?_)
        replace hw : r39 = r39z := hw
        subst hw
        obtain ⟨hP1, hK1, hD1⟩ := hB
        rw [ht] at hP1
        obtain ⟨hP, hD⟩ := jn_all (w1 := (mW h0 kB kI kZ q (upd (upd g 7 c39_g7) 8 c39_g8) F)) hFc hP1 hD1
        clear hFc hP1 hK1 hD1 hk1 hz1 ht hvm
        generalize H1 = H at hP hS ⊢
        have hP : va_P (dC, dI) vwCl (mW h0 kB kI kZ q (upd (upd g 7 c39_g7) 8 c39_g8) F) H := hP
        have hD : va_D A (mW h0 kB kI kZ q (upd (upd g 7 c39_g7) 8 c39_g8) F) := hD
        replace hr := iteS hr
        obtain ⟨hz42, hr⟩ := hr
        first | exact K 42 ls _ _ _ _ _ H _ hr hz42 dX12_take_42 (sP_eq (mW_cg (by repeat (first | with_reducible rfl | with_reducible refine upd_cg ?_ | refine Eq.trans ?_ (upd_id rfl))) (by repeat (first | with_reducible rfl | with_reducible refine upF_cg ?_ | refine Eq.trans ?_ (upF_id rfl)))) hP) (sD_eq (mW_cg (by repeat (first | with_reducible rfl | with_reducible refine upd_cg ?_ | refine Eq.trans ?_ (upd_id rfl))) (by repeat (first | with_reducible rfl | with_reducible refine upF_cg ?_ | refine Eq.trans ?_ (upF_id rfl)))) hD) hS | exact K 42 ls _ _ _ _ _ H _ hr hz42 dX12_take_42 hP hD hS
  · replace hr := iteF c5 hr
    refine lv_aload_n hx hb dX12_take_8 rfl (lv_at hl 0 rfl) ?_
    refine lv_iconst (v := 1) hx hb dX12_take_9 (by decide +kernel) ?_
    replace hr := b3S hr
    obtain ⟨r10z, c10_g7, c10_g8, hc10, hr⟩ := hr
    have hFc := fr_all hD hS hA
    refine va_calli (va_runV (As := [.int 1]) (rest := []) ⟨hx, hb, hml, hown, hts⟩ (m_wrong l dC dI H.size h0 kB kI kZ q g F 1 r10z c10_g7 c10_g8 hc10) (cwV 1 hts gw_X12_wrong_197 rfl rfl rfl (by decide +kernel) ⟨Nat.le_of_ble_eq_true rfl, Nat.le_of_ble_eq_true rfl⟩) ⟨fun a U g mk q => by obtain ⟨q0, q1, qP, qK, qD⟩ := q; exact ⟨q0, q1, qP, va_K.moved (u := U) (U := U.calling g mk a) (Vm.Alike.refl U.vm) qK, qD⟩, va_recv hK hP (ci := 12) (q0 := 0) rfl rfl, fun U hU hW => ⟨rfl, by rw [hU], by rw [hU]; exact hP, va_K.moved hW.alike hK, hD.weaken (fun _ _ _ _ => trivial)⟩⟩ rfl rfl hl.1 rfl (lv_room (Nat.le_of_ble_eq_true rfl)) dX12_take_10 ⟨Nat.le_of_ble_eq_true rfl, Nat.le_of_ble_eq_true rfl⟩) hS (fun q _ h => hFc q h) hFc (fun r10 u t H1 locs ht hvm hw hB hz1 hk1 hS => ?_)
    replace hw : r10 = r10z := hw
    subst hw
    obtain ⟨hP1, hK1, hD1⟩ := hB
    rw [ht] at hP1
    obtain ⟨hP, hD⟩ := jn_all (w1 := (mW h0 kB kI kZ q (upd (upd g 7 c10_g7) 8 c10_g8) F)) hFc hP1 hD1
    clear hFc hP1 hK1 hD1 hk1 hz1 ht hvm
    generalize H1 = H at hP hS ⊢
    have hP : va_P (dC, dI) vwCl (mW h0 kB kI kZ q (upd (upd g 7 c10_g7) 8 c10_g8) F) H := hP
    have hD : va_D A (mW h0 kB kI kZ q (upd (upd g 7 c10_g7) 8 c10_g8) F) := hD
    replace hr := iteS hr
    obtain ⟨hz13, hr⟩ := hr
    first | exact K 13 ls _ _ _ _ _ H _ hr hz13 dX12_take_13 (sP_eq (mW_cg (by repeat (first | with_reducible rfl | with_reducible refine upd_cg ?_ | refine Eq.trans ?_ (upd_id rfl))) (by repeat (first | with_reducible rfl | with_reducible refine upF_cg ?_ | refine Eq.trans ?_ (upF_id rfl)))) hP) (sD_eq (mW_cg (by repeat (first | with_reducible rfl | with_reducible refine upd_cg ?_ | refine Eq.trans ?_ (upd_id rfl))) (by repeat (first | with_reducible rfl | with_reducible refine upF_cg ?_ | refine Eq.trans ?_ (upF_id rfl)))) hD) hS | exact K 13 ls _ _ _ _ _ H _ hr hz13 dX12_take_13 hP hD hS
set_option maxHeartbeats 4000000 in
set_option maxRecDepth 100000 in
theorem m_take_18_19 (l : Launch) (dC : Nat → ClassId) (dI : Nat → Nat → Nat) (sz : Nat) (h0 : Nat) (kB kI kZ : ClassId) (q : Nat → Nat) (g : Nat → Int32) (F : Nat → Nat → Int32) (p2 : Int32) (p3 : Int32) (r : Int32) (c_g7 : Int32) (c_g8 : Int32) (c_A0 : (Nat → Int32)) (c_A1 : (Nat → Int32)) (hr : f_take g F (F 18) 4480 (F 19) 280 p2 p3 = some (r, c_g7, c_g8, c_A0, c_A1)) : Met l yX12_take vmX12_take ({ frames := 3, cells := 0, slots := 0, locals := 81 } : Room) (va_Pc [.ref h0, .ref (q 18), .ref (q 19), .int p2, .int p3] (fun U => U.heap.size = sz ∧ va_P (dC, dI) vwCl (mW h0 kB kI kZ q g F) U.heap ∧ va_K (dC, dI) vwCl (mT kB kI kZ) U ∧ va_D (fun _ => True) (mW h0 kB kI kZ q g F))) (va_Qi (fun (rz : Int32) (_ : Unit) => rz = r) (fun _ t => va_P (dC, dI) vwCl (mW h0 kB kI kZ q (upd (upd g 7 c_g7) 8 c_g8) (upF (upF F 18 c_A0) 19 c_A1)) t.heap ∧ va_K (dC, dI) vwCl (mT kB kI kZ) t ∧ va_D (va_A (mW h0 kB kI kZ q g F) sz) (mW h0 kB kI kZ q (upd (upd g 7 c_g7) 8 c_g8) (upF (upF F 18 c_A0) 19 c_A1))) (va_A (mW h0 kB kI kZ q g F) sz)) 0 0 (va_A (mW h0 kB kI kZ q g F) sz) := by
  refine Met.ofW (cc := cX12_take) (maxL := 7) (ret := (some .boolean)) (by decide) rfl ?_
  intro p e s m args below meth c s₁ B hml hv
  obtain ⟨rfl, hsz, hP, hK, hD0⟩ := hv
  have hx := B.exec
  have hb := B.bytes
  have hrt := B.returns
  have hts := atoms_spec (ws := vmX12_take) B.pre
  have hown : s.vm.findClass RX12 = some m.cls := findClass_of_methodNamed B.named
  subst hsz
  have hD := hD0.self (sz := s.heap.size)
  generalize hAe : va_A (mW h0 kB kI kZ q g F) s.heap.size = A at hD ⊢
  have hA : ∀ q : Nat, s.heap.size ≤ q → A q := fun q h => by rw [← hAe]; exact Or.inr h
  have hS : va_S A s.heap s.heap [] := va_S.rf
  have hl := lv_entry ([.ref h0, .ref (q 18), .ref (q 19), .int p2, .int p3]) (n := 7) (Nat.le_of_ble_eq_true rfl)
  rw [lg_entry_eq]
  generalize (lg_sl ([.ref h0, .ref (q 18), .ref (q 19), .int p2, .int p3]) ++ List.replicate (7 - (lg_sl ([.ref h0, .ref (q 18), .ref (q 19), .int p2, .int p3])).length) Slot.unset).toArray = ls at hl ⊢
  exact bm_take_18_19 p2 p3 r c_g7 c_g8 c_A0 c_A1 hr hx hb hml hown hts hA hK hP hD hS hl (fun pc ls rz c_g7z c_g8z c_A0z c_A1z H locs he hz hd hP hD hS => by cases he; exact W.zret (v := r) hx hb hrt (z_nb hz) (fun t ht hW => ⟨⟨r, (), rfl, rfl, by rw [ht]; exact hP, va_K.moved hW.alike hK, hD⟩, hS.F ht⟩) hS.2.2 hd)
set_option maxHeartbeats 4000000 in
set_option maxRecDepth 100000 in
theorem bm_take_20_21 {p : Program} {l : Launch} {e : Env} {s : State} {m : MethodId} {args : Array Value} {below : List Frame} {meth : Method} {c : Code} {Q : State → Prop} {A : Nat → Prop} {dC : Nat → ClassId} {dI : Nat → Nat → Nat} {h0 : Nat} {kB kI kZ : ClassId} {q : Nat → Nat} {g : Nat → Int32} {F : Nat → Nat → Int32} {H : Heap} {locs : List Loc} {ls : Array Slot} (p2 : Int32) (p3 : Int32) (r : Int32) (c_g7 : Int32) (c_g8 : Int32) (c_A0 : (Nat → Int32)) (c_A1 : (Nat → Int32)) (hr : f_take g F (F 20) 8960 (F 21) 560 p2 p3 = some (r, c_g7, c_g8, c_A0, c_A1)) (hx : p.tables.exec = Jvm.exec) (hb : c.code = cX12_take) (hml : c.maxLocals = 7) (hown : s.vm.findClass RX12 = some m.cls) (hts : ∀ w ∈ vmX12_take, w.before args s = true) (hA : ∀ q : Nat, s.heap.size ≤ q → A q) (hK : va_K (dC, dI) vwCl (mT kB kI kZ) s) (hP : va_P (dC, dI) vwCl (mW h0 kB kI kZ q g F) H) (hD : va_D A (mW h0 kB kI kZ q g F)) (hS : va_S A s.heap H locs) (hl : lv_has ls 7 [(0, .ref h0), (1, .ref (q 20)), (2, .ref (q 21)), (3, .int p2), (4, .int p3)])
    (K : ∀ (pc : Nat) (ls : Array Slot) (rz : Int32) (c_g7z : Int32) (c_g8z : Int32) (c_A0z : (Nat → Int32)) (c_A1z : (Nat → Int32)) (H : Heap) (locs : List Loc), some (rz, c_g7z, c_g8z, c_A0z, c_A1z) = some (r, c_g7, c_g8, c_A0, c_A1) → is01 rz → decode cX12_take pc = .ok (.ireturn, 1) → va_P (dC, dI) vwCl (mW h0 kB kI kZ q (upd (upd g 7 c_g7z) 8 c_g8z) (upF (upF F 20 c_A0z) 21 c_A1z)) H → va_D A (mW h0 kB kI kZ q (upd (upd g 7 c_g7z) 8 c_g8z) (upF (upF F 20 c_A0z) 21 c_A1z)) → va_S A s.heap H locs → W p l e ({ frames := 3, cells := 0, slots := 0, locals := 81 } : Room) s m args below meth c H locs 0 0 Q (F0 m pc ls [.int rz])) : W p l e ({ frames := 3, cells := 0, slots := 0, locals := 81 } : Room) s m args below meth c H locs 0 0 Q (F0 m 0 ls []) := by
  unfold f_take at hr
  refine lv_aload_n hx hb dX12_take_0 rfl (lv_at hl 0 rfl) ?_
  refine va_get (D := (dC, dI)) (ci := 12) (v := .int (g 3)) (C := RX12) (T := TX12) (N := 71) hx hb hts inX12 hown hK hP 0 rfl rfl 3 (by decide) (hts (.fieldLink RX12 180 "SpellTurnerModel" "sort" "I") im_65) (fun _ h9 => h9) rfl dX12_take_1 ?_
  refine lv_iconst (v := 2) hx hb dX12_take_4 (by decide +kernel) ?_
  refine lv_icmp_eq (tgt := 14) hx hb dX12_take_5 (by decide) (fun c5 => ?_) (fun c5 => ?_)
  · replace hr := iteT c5 hr
    refine lv_aload_n hx hb dX12_take_14 rfl (lv_at hl 0 rfl) ?_
    refine va_get (D := (dC, dI)) (ci := 12) (v := .int (g 6)) (C := RX12) (T := TX12) (N := 71) hx hb hts inX12 hown hK hP 0 rfl rfl 6 (by decide) (hts (.fieldLink RX12 174 "SpellTurnerModel" "end" "I") im_66) (fun _ h9 => h9) rfl dX12_take_15 ?_
    refine lv_aload_n hx hb dX12_take_18 rfl (lv_at hl 0 rfl) ?_
    refine va_get (D := (dC, dI)) (ci := 12) (v := .int (g 5)) (C := RX12) (T := TX12) (N := 71) hx hb hts inX12 hown hK hP 0 rfl rfl 5 (by decide) (hts (.fieldLink RX12 177 "SpellTurnerModel" "at" "I") im_37) (fun _ h9 => h9) rfl dX12_take_19 ?_
    refine lv_isub hx hb dX12_take_22 ?_
    refine lv_iconst (v := 2) hx hb dX12_take_23 (by decide +kernel) ?_
    refine lv_isub hx hb dX12_take_24 ?_
    refine lv_topi (fun x25 ex25 => ?_)
    replace hr := vlS hr x25 ex25
    clear ex25
    refine lv_istore (lv' := [(5, .int x25), (0, .ref h0), (1, .ref (q 20)), (2, .ref (q 21)), (3, .int p2), (4, .int p3)]) hx hb dX12_take_25 hl (by decide) rfl (fun ls hl => ?_)
    refine lv_iload hx hb dX12_take_27 (lv_at hl 5 rfl) ?_
    replace hr := jnS hr
    obtain ⟨j43, hj43, hr⟩ := hr
    have Jj43 : ∀ (H : Heap) (locs : List Loc) (ls : Array Slot), j43 () = some (r, c_g7, c_g8, c_A0, c_A1) → va_P (dC, dI) vwCl (mW h0 kB kI kZ q g F) H → va_D A (mW h0 kB kI kZ q g F) → va_S A s.heap H locs → lv_has ls 7 [(0, .ref h0), (1, .ref (q 20)), (2, .ref (q 21)), (3, .int p2), (5, .int x25)] → W p l e ({ frames := 3, cells := 0, slots := 0, locals := 81 } : Room) s m args below meth c H locs 0 0 Q (F0 m 43 ls []) := by
      intro H locs ls hr hP hD hS hl
      rw [hj43] at hr
      refine lv_iconst (v := 0) hx hb dX12_take_43 (by decide +kernel) ?_
      refine lv_istore (lv' := [(6, .int 0), (0, .ref h0), (1, .ref (q 20)), (2, .ref (q 21)), (3, .int p2), (5, .int x25)]) hx hb dX12_take_44 hl (by decide) rfl (fun ls hl => ?_)
      have lp46 : ∀ (n46 : Nat) (y46_6 : Int32) (d46_A0 : (Nat → Int32)) (H : Heap) (locs : List Loc) (ls : Array Slot), L_take_46 g F 8960 (F 21) 560 p2 x25 n46 y46_6 d46_A0 = some (r, c_g7, c_g8, c_A0, c_A1) → va_P (dC, dI) vwCl (mW h0 kB kI kZ q g (upF F 20 d46_A0)) H → va_D A (mW h0 kB kI kZ q g (upF F 20 d46_A0)) → va_S A s.heap H locs → lv_has ls 7 [(0, .ref h0), (1, .ref (q 20)), (2, .ref (q 21)), (3, .int p2), (5, .int x25), (6, .int y46_6)] → W p l e ({ frames := 3, cells := 0, slots := 0, locals := 81 } : Room) s m args below meth c H locs 0 0 Q (F0 m 46 ls []) := by
        intro n46
        induction n46 with
        | zero => intro y46_6 d46_A0 H locs ls hr; exact nomatch (show none = some (r, c_g7, c_g8, c_A0, c_A1) from hr)
        | succ n46 ih46 =>
          intro y46_6 d46_A0 H locs ls hr hP hD hS hl
          replace hr : B_take_46 g F 8960 (F 21) 560 p2 x25 (L_take_46 g F 8960 (F 21) 560 p2 x25 n46) y46_6 d46_A0 = some (r, c_g7, c_g8, c_A0, c_A1) := hr
          unfold B_take_46 at hr
          refine lv_iload hx hb dX12_take_46 (lv_at hl 5 rfl) ?_
          refine lv_iload hx hb dX12_take_48 (lv_at hl 4 rfl) ?_
          refine lv_icmp_ge (tgt := 82) hx hb dX12_take_50 (by decide) (fun c50 => ?_) (fun c50 => ?_)
          · replace hr := iteT c50 hr
            refine lv_aload_n hx hb dX12_take_82 rfl (lv_at hl 2 rfl) ?_
            refine lv_iload_n hx hb dX12_take_83 rfl (lv_at hl 3 rfl) ?_
            refine lv_iload hx hb dX12_take_84 (lv_at hl 4 rfl) ?_
            replace hr := iteS hr
            obtain ⟨hi86, hr⟩ := hr
            refine va_iast (f := (F 21)) hx hb hK hP hD hS 13 1 rfl rfl (inbV hi86) dX12_take_86 (fun H locs hP hD hS => ?_)
            obtain ⟨w86, ew86, hP, hD⟩ : ∃ w86 : Nat → Int32, w86 = (upd (F 21) (Int32.toNatClampNeg p2) x25) ∧ va_P (dC, dI) vwCl (mW h0 kB kI kZ q g (upF (upF F 20 d46_A0) 21 w86)) H ∧ va_D A (mW h0 kB kI kZ q g (upF (upF F 20 d46_A0) 21 w86)) := ⟨(upd (F 21) (Int32.toNatClampNeg p2) x25), rfl, by first | exact sP_F21 hP rfl | exact sP_F21 hP upF_same | exact hP, by first | exact sD_F21 hD rfl | exact sD_F21 hD upF_same | exact hD⟩
            replace hr := vlS hr w86 ew86
            clear ew86
            refine lv_iconst (v := 1) hx hb dX12_take_87 (by decide +kernel) ?_
            first | exact K 88 ls _ _ _ _ _ H _ hr (by decide) dX12_take_88 (sP_eq (mW_cg (by repeat (first | with_reducible rfl | with_reducible refine upd_cg ?_ | refine Eq.trans ?_ (upd_id rfl))) (by repeat (first | with_reducible rfl | with_reducible refine upF_cg ?_ | refine Eq.trans ?_ (upF_id rfl)))) hP) (sD_eq (mW_cg (by repeat (first | with_reducible rfl | with_reducible refine upd_cg ?_ | refine Eq.trans ?_ (upd_id rfl))) (by repeat (first | with_reducible rfl | with_reducible refine upF_cg ?_ | refine Eq.trans ?_ (upF_id rfl)))) hD) hS | exact K 88 ls _ _ _ _ _ H _ hr (by decide) dX12_take_88 hP hD hS
          · replace hr := iteF c50 hr
            refine lv_aload_n hx hb dX12_take_53 rfl (lv_at hl 1 rfl) ?_
            refine lv_bipush (v := 16) hx hb dX12_take_54 (by decide +kernel) ?_
            refine lv_iload_n hx hb dX12_take_56 rfl (lv_at hl 3 rfl) ?_
            refine lv_imul hx hb dX12_take_57 ?_
            refine lv_iload hx hb dX12_take_58 (lv_at hl 5 rfl) ?_
            refine lv_iadd hx hb dX12_take_60 ?_
            refine lv_aload_n hx hb dX12_take_61 rfl (lv_at hl 0 rfl) ?_
            refine va_get (D := (dC, dI)) (ci := 12) (v := .ref (q 0)) (C := RX12) (T := TX12) (N := 71) hx hb hts inX12 hown hK hP 0 rfl rfl 0 (by decide) (hts (.fieldLink RX12 7 "SpellTurnerModel" "tape" "[B") im_34) (fun _ h9 => h9) rfl dX12_take_62 ?_
            refine lv_aload_n hx hb dX12_take_65 rfl (lv_at hl 0 rfl) ?_
            refine va_get (D := (dC, dI)) (ci := 12) (v := .int (g 5)) (C := RX12) (T := TX12) (N := 71) hx hb hts inX12 hown hK hP 0 rfl rfl 5 (by decide) (hts (.fieldLink RX12 177 "SpellTurnerModel" "at" "I") im_37) (fun _ h9 => h9) rfl dX12_take_66 ?_
            refine lv_iconst (v := 1) hx hb dX12_take_69 (by decide +kernel) ?_
            refine lv_iadd hx hb dX12_take_70 ?_
            refine lv_iload hx hb dX12_take_71 (lv_at hl 5 rfl) ?_
            refine lv_iadd hx hb dX12_take_73 ?_
            replace hr := iteS hr
            obtain ⟨hi74, hr⟩ := hr
            refine va_bald (f := (F 0)) hx hb hK hP 1 0 rfl rfl (inbV hi74) dX12_take_74 ?_
            replace hr := iteS hr
            obtain ⟨hi75, hr⟩ := hr
            refine va_bast (f := d46_A0) hx hb hK hP hD hS 12 0 rfl rfl (inbV hi75) dX12_take_75 (fun H locs hP hD hS => ?_)
            obtain ⟨w75, ew75, hP, hD⟩ : ∃ w75 : Nat → Int32, w75 = (upd d46_A0 (Int32.toNatClampNeg ((16 * p2) + y46_6)) (vp_nar .byte ((F 0) (Int32.toNatClampNeg (((g 5) + 1) + y46_6))))) ∧ va_P (dC, dI) vwCl (mW h0 kB kI kZ q g (upF F 20 w75)) H ∧ va_D A (mW h0 kB kI kZ q g (upF F 20 w75)) := ⟨(upd d46_A0 (Int32.toNatClampNeg ((16 * p2) + y46_6)) (vp_nar .byte ((F 0) (Int32.toNatClampNeg (((g 5) + 1) + y46_6))))), rfl, by first | exact sP_F20 hP upF_same | exact sP_F20 hP rfl | exact hP, by first | exact sD_F20 hD upF_same | exact sD_F20 hD rfl | exact hD⟩
            replace hr := vlS hr w75 ew75
            clear ew75
            refine lv_iinc (v := (y46_6 + 1)) (lv' := [(6, .int (y46_6 + 1)), (0, .ref h0), (1, .ref (q 20)), (2, .ref (q 21)), (3, .int p2), (5, .int x25)]) hx hb dX12_take_76 hl (k := 5) rfl rfl (by decide) rfl (fun ls hl => ?_)
            refine lv_goto (tgt := 46) hx hb dX12_take_79 (by decide) ?_
            exact ih46 (y46_6 + 1) w75 H _ ls hr hP hD hS (lv_sub hl [1, 2, 3, 4, 5, 0] rfl)
      first | exact lp46 NN 0 (F 20) H _ ls hr (sP_eq (mW_cg (by repeat (first | with_reducible rfl | with_reducible refine upd_cg ?_ | refine Eq.trans ?_ (upd_id rfl))) (by repeat (first | with_reducible rfl | with_reducible refine upF_cg ?_ | refine Eq.trans ?_ (upF_id rfl)))) hP) (sD_eq (mW_cg (by repeat (first | with_reducible rfl | with_reducible refine upd_cg ?_ | refine Eq.trans ?_ (upd_id rfl))) (by repeat (first | with_reducible rfl | with_reducible refine upF_cg ?_ | refine Eq.trans ?_ (upF_id rfl)))) hD) hS (lv_sub hl [1, 2, 3, 4, 5, 0] rfl) | exact lp46 NN 0 (F 20) H _ ls hr hP hD hS (lv_sub hl [1, 2, 3, 4, 5, 0] rfl)
    refine lv_if_eq (tgt := 43) hx hb dX12_take_29 (by decide) (fun c29 => ?_) (fun c29 => ?_)
    · replace hr := iteT c29 hr
      exact Jj43 H _ ls hr hP hD hS (lv_sub hl [1, 2, 3, 4, 0] rfl)
    · replace hr := iteF c29 hr
      refine lv_iload hx hb dX12_take_32 (lv_at hl 0 rfl) ?_
      refine lv_if_ne (tgt := 43) hx hb dX12_take_34 (by decide) (fun c34 => ?_) (fun c34 => ?_)
      · replace hr := iteF c34 hr
        exact Jj43 H _ ls hr hP hD hS (lv_sub hl [1, 2, 3, 4, 0] rfl)
      · replace hr := iteT c34 hr
        refine lv_aload_n hx hb dX12_take_37 rfl (lv_at hl 1 rfl) ?_
        refine lv_iconst (v := 2) hx hb dX12_take_38 (by decide +kernel) ?_
        replace hr := b3S hr
        obtain ⟨r39z, c39_g7, c39_g8, hc39, hr⟩ := hr
        have hFc := fr_all hD hS hA
        refine va_calli (va_runV (As := [.int 2]) (rest := []) ⟨hx, hb, hml, hown, hts⟩ (m_wrong l dC dI H.size h0 kB kI kZ q g F 2 r39z c39_g7 c39_g8 hc39) (cwV 1 hts gw_X12_wrong_197 rfl rfl rfl (by decide +kernel) ⟨Nat.le_of_ble_eq_true rfl, Nat.le_of_ble_eq_true rfl⟩) ⟨fun a U g mk q => by obtain ⟨q0, q1, qP, qK, qD⟩ := q; exact ⟨q0, q1, qP, va_K.moved (u := U) (U := U.calling g mk a) (Vm.Alike.refl U.vm) qK, qD⟩, va_recv hK hP (ci := 12) (q0 := 0) rfl rfl, fun U hU hW => ⟨rfl, by rw [hU], by rw [hU]; exact hP, va_K.moved hW.alike hK, hD.weaken (fun _ _ _ _ => trivial)⟩⟩ rfl rfl hl.1 rfl (lv_room (Nat.le_of_ble_eq_true rfl)) dX12_take_39 ⟨Nat.le_of_ble_eq_true rfl, Nat.le_of_ble_eq_true rfl⟩) hS (fun q _ h => hFc q h) hFc (fun r39 u t H1 locs ht hvm hw hB hz1 hk1 hS => ?_)
        replace hw : r39 = r39z := hw
        subst hw
        obtain ⟨hP1, hK1, hD1⟩ := hB
        rw [ht] at hP1
        obtain ⟨hP, hD⟩ := jn_all (w1 := (mW h0 kB kI kZ q (upd (upd g 7 c39_g7) 8 c39_g8) F)) hFc hP1 hD1
        clear hFc hP1 hK1 hD1 hk1 hz1 ht hvm
        generalize H1 = H at hP hS ⊢
        have hP : va_P (dC, dI) vwCl (mW h0 kB kI kZ q (upd (upd g 7 c39_g7) 8 c39_g8) F) H := hP
        have hD : va_D A (mW h0 kB kI kZ q (upd (upd g 7 c39_g7) 8 c39_g8) F) := hD
        replace hr := iteS hr
        obtain ⟨hz42, hr⟩ := hr
        first | exact K 42 ls _ _ _ _ _ H _ hr hz42 dX12_take_42 (sP_eq (mW_cg (by repeat (first | with_reducible rfl | with_reducible refine upd_cg ?_ | refine Eq.trans ?_ (upd_id rfl))) (by repeat (first | with_reducible rfl | with_reducible refine upF_cg ?_ | refine Eq.trans ?_ (upF_id rfl)))) hP) (sD_eq (mW_cg (by repeat (first | with_reducible rfl | with_reducible refine upd_cg ?_ | refine Eq.trans ?_ (upd_id rfl))) (by repeat (first | with_reducible rfl | with_reducible refine upF_cg ?_ | refine Eq.trans ?_ (upF_id rfl)))) hD) hS | exact K 42 ls _ _ _ _ _ H _ hr hz42 dX12_take_42 hP hD hS
  · replace hr := iteF c5 hr
    refine lv_aload_n hx hb dX12_take_8 rfl (lv_at hl 0 rfl) ?_
    refine lv_iconst (v := 1) hx hb dX12_take_9 (by decide +kernel) ?_
    replace hr := b3S hr
    obtain ⟨r10z, c10_g7, c10_g8, hc10, hr⟩ := hr
    have hFc := fr_all hD hS hA
    refine va_calli (va_runV (As := [.int 1]) (rest := []) ⟨hx, hb, hml, hown, hts⟩ (m_wrong l dC dI H.size h0 kB kI kZ q g F 1 r10z c10_g7 c10_g8 hc10) (cwV 1 hts gw_X12_wrong_197 rfl rfl rfl (by decide +kernel) ⟨Nat.le_of_ble_eq_true rfl, Nat.le_of_ble_eq_true rfl⟩) ⟨fun a U g mk q => by obtain ⟨q0, q1, qP, qK, qD⟩ := q; exact ⟨q0, q1, qP, va_K.moved (u := U) (U := U.calling g mk a) (Vm.Alike.refl U.vm) qK, qD⟩, va_recv hK hP (ci := 12) (q0 := 0) rfl rfl, fun U hU hW => ⟨rfl, by rw [hU], by rw [hU]; exact hP, va_K.moved hW.alike hK, hD.weaken (fun _ _ _ _ => trivial)⟩⟩ rfl rfl hl.1 rfl (lv_room (Nat.le_of_ble_eq_true rfl)) dX12_take_10 ⟨Nat.le_of_ble_eq_true rfl, Nat.le_of_ble_eq_true rfl⟩) hS (fun q _ h => hFc q h) hFc (fun r10 u t H1 locs ht hvm hw hB hz1 hk1 hS => ?_)
    replace hw : r10 = r10z := hw
    subst hw
    obtain ⟨hP1, hK1, hD1⟩ := hB
    rw [ht] at hP1
    obtain ⟨hP, hD⟩ := jn_all (w1 := (mW h0 kB kI kZ q (upd (upd g 7 c10_g7) 8 c10_g8) F)) hFc hP1 hD1
    clear hFc hP1 hK1 hD1 hk1 hz1 ht hvm
    generalize H1 = H at hP hS ⊢
    have hP : va_P (dC, dI) vwCl (mW h0 kB kI kZ q (upd (upd g 7 c10_g7) 8 c10_g8) F) H := hP
    have hD : va_D A (mW h0 kB kI kZ q (upd (upd g 7 c10_g7) 8 c10_g8) F) := hD
    replace hr := iteS hr
    obtain ⟨hz13, hr⟩ := hr
    first | exact K 13 ls _ _ _ _ _ H _ hr hz13 dX12_take_13 (sP_eq (mW_cg (by repeat (first | with_reducible rfl | with_reducible refine upd_cg ?_ | refine Eq.trans ?_ (upd_id rfl))) (by repeat (first | with_reducible rfl | with_reducible refine upF_cg ?_ | refine Eq.trans ?_ (upF_id rfl)))) hP) (sD_eq (mW_cg (by repeat (first | with_reducible rfl | with_reducible refine upd_cg ?_ | refine Eq.trans ?_ (upd_id rfl))) (by repeat (first | with_reducible rfl | with_reducible refine upF_cg ?_ | refine Eq.trans ?_ (upF_id rfl)))) hD) hS | exact K 13 ls _ _ _ _ _ H _ hr hz13 dX12_take_13 hP hD hS
set_option maxHeartbeats 4000000 in
set_option maxRecDepth 100000 in
theorem m_take_20_21 (l : Launch) (dC : Nat → ClassId) (dI : Nat → Nat → Nat) (sz : Nat) (h0 : Nat) (kB kI kZ : ClassId) (q : Nat → Nat) (g : Nat → Int32) (F : Nat → Nat → Int32) (p2 : Int32) (p3 : Int32) (r : Int32) (c_g7 : Int32) (c_g8 : Int32) (c_A0 : (Nat → Int32)) (c_A1 : (Nat → Int32)) (hr : f_take g F (F 20) 8960 (F 21) 560 p2 p3 = some (r, c_g7, c_g8, c_A0, c_A1)) : Met l yX12_take vmX12_take ({ frames := 3, cells := 0, slots := 0, locals := 81 } : Room) (va_Pc [.ref h0, .ref (q 20), .ref (q 21), .int p2, .int p3] (fun U => U.heap.size = sz ∧ va_P (dC, dI) vwCl (mW h0 kB kI kZ q g F) U.heap ∧ va_K (dC, dI) vwCl (mT kB kI kZ) U ∧ va_D (fun _ => True) (mW h0 kB kI kZ q g F))) (va_Qi (fun (rz : Int32) (_ : Unit) => rz = r) (fun _ t => va_P (dC, dI) vwCl (mW h0 kB kI kZ q (upd (upd g 7 c_g7) 8 c_g8) (upF (upF F 20 c_A0) 21 c_A1)) t.heap ∧ va_K (dC, dI) vwCl (mT kB kI kZ) t ∧ va_D (va_A (mW h0 kB kI kZ q g F) sz) (mW h0 kB kI kZ q (upd (upd g 7 c_g7) 8 c_g8) (upF (upF F 20 c_A0) 21 c_A1))) (va_A (mW h0 kB kI kZ q g F) sz)) 0 0 (va_A (mW h0 kB kI kZ q g F) sz) := by
  refine Met.ofW (cc := cX12_take) (maxL := 7) (ret := (some .boolean)) (by decide) rfl ?_
  intro p e s m args below meth c s₁ B hml hv
  obtain ⟨rfl, hsz, hP, hK, hD0⟩ := hv
  have hx := B.exec
  have hb := B.bytes
  have hrt := B.returns
  have hts := atoms_spec (ws := vmX12_take) B.pre
  have hown : s.vm.findClass RX12 = some m.cls := findClass_of_methodNamed B.named
  subst hsz
  have hD := hD0.self (sz := s.heap.size)
  generalize hAe : va_A (mW h0 kB kI kZ q g F) s.heap.size = A at hD ⊢
  have hA : ∀ q : Nat, s.heap.size ≤ q → A q := fun q h => by rw [← hAe]; exact Or.inr h
  have hS : va_S A s.heap s.heap [] := va_S.rf
  have hl := lv_entry ([.ref h0, .ref (q 20), .ref (q 21), .int p2, .int p3]) (n := 7) (Nat.le_of_ble_eq_true rfl)
  rw [lg_entry_eq]
  generalize (lg_sl ([.ref h0, .ref (q 20), .ref (q 21), .int p2, .int p3]) ++ List.replicate (7 - (lg_sl ([.ref h0, .ref (q 20), .ref (q 21), .int p2, .int p3])).length) Slot.unset).toArray = ls at hl ⊢
  exact bm_take_20_21 p2 p3 r c_g7 c_g8 c_A0 c_A1 hr hx hb hml hown hts hA hK hP hD hS hl (fun pc ls rz c_g7z c_g8z c_A0z c_A1z H locs he hz hd hP hD hS => by cases he; exact W.zret (v := r) hx hb hrt (z_nb hz) (fun t ht hW => ⟨⟨r, (), rfl, rfl, by rw [ht]; exact hP, va_K.moved hW.alike hK, hD⟩, hS.F ht⟩) hS.2.2 hd)
set_option maxHeartbeats 4000000 in
set_option maxRecDepth 100000 in
theorem bm_same_18_19 {p : Program} {l : Launch} {e : Env} {s : State} {m : MethodId} {args : Array Value} {below : List Frame} {meth : Method} {c : Code} {Q : State → Prop} {A : Nat → Prop} {dC : Nat → ClassId} {dI : Nat → Nat → Nat} {h0 : Nat} {kB kI kZ : ClassId} {q : Nat → Nat} {g : Nat → Int32} {F : Nat → Nat → Int32} {H : Heap} {locs : List Loc} {ls : Array Slot} (p2 : Int32) (p3 : Int32) (r : Int32) (hr : f_same (F 18) 4480 (F 19) 280 p2 p3 = some r) (hx : p.tables.exec = Jvm.exec) (hb : c.code = cX12_same) (hml : c.maxLocals = 5) (hown : s.vm.findClass RX12 = some m.cls) (hts : ∀ w ∈ vmX12_same, w.before args s = true) (hA : ∀ q : Nat, s.heap.size ≤ q → A q) (hK : va_K (dC, dI) vwCl (mT kB kI kZ) s) (hP : va_P (dC, dI) vwCl (mW h0 kB kI kZ q g F) H) (hD : va_D A (mW h0 kB kI kZ q g F)) (hS : va_S A s.heap H locs) (hl : lv_has ls 5 [(0, .ref (q 18)), (1, .ref (q 19)), (2, .int p2), (3, .int p3)])
    (K : ∀ (pc : Nat) (ls : Array Slot) (rz : Int32) (H : Heap) (locs : List Loc), some rz = some r → is01 rz → decode cX12_same pc = .ok (.ireturn, 1) → va_P (dC, dI) vwCl (mW h0 kB kI kZ q g F) H → va_D A (mW h0 kB kI kZ q g F) → va_S A s.heap H locs → W p l e ({ frames := 2, cells := 0, slots := 0, locals := 60 } : Room) s m args below meth c H locs 0 0 Q (F0 m pc ls [.int rz])) : W p l e ({ frames := 2, cells := 0, slots := 0, locals := 60 } : Room) s m args below meth c H locs 0 0 Q (F0 m 0 ls []) := by
  unfold f_same at hr
  refine lv_aload_n hx hb dX12_same_0 rfl (lv_at hl 1 rfl) ?_
  refine lv_iload_n hx hb dX12_same_1 rfl (lv_at hl 2 rfl) ?_
  replace hr := iteS hr
  obtain ⟨hi2, hr⟩ := hr
  refine va_iald (f := (F 19)) hx hb hK hP 11 1 rfl rfl (inbV hi2) dX12_same_2 ?_
  refine lv_aload_n hx hb dX12_same_3 rfl (lv_at hl 1 rfl) ?_
  refine lv_iload_n hx hb dX12_same_4 rfl (lv_at hl 3 rfl) ?_
  replace hr := iteS hr
  obtain ⟨hi5, hr⟩ := hr
  refine va_iald (f := (F 19)) hx hb hK hP 11 1 rfl rfl (inbV hi5) dX12_same_5 ?_
  refine lv_icmp_eq (tgt := 11) hx hb dX12_same_6 (by decide) (fun c6 => ?_) (fun c6 => ?_)
  · replace hr := iteT c6 hr
    refine lv_iconst (v := 0) hx hb dX12_same_11 (by decide +kernel) ?_
    refine lv_istore (lv' := [(4, .int 0), (0, .ref (q 18)), (1, .ref (q 19)), (2, .int p2), (3, .int p3)]) hx hb dX12_same_12 hl (by decide) rfl (fun ls hl => ?_)
    have lp14 : ∀ (n14 : Nat) (y14_4 : Int32) (H : Heap) (locs : List Loc) (ls : Array Slot), L_same_14 (F 18) 4480 (F 19) 280 p2 p3 n14 y14_4 = some r → va_P (dC, dI) vwCl (mW h0 kB kI kZ q g F) H → va_D A (mW h0 kB kI kZ q g F) → va_S A s.heap H locs → lv_has ls 5 [(0, .ref (q 18)), (1, .ref (q 19)), (2, .int p2), (3, .int p3), (4, .int y14_4)] → W p l e ({ frames := 2, cells := 0, slots := 0, locals := 60 } : Room) s m args below meth c H locs 0 0 Q (F0 m 14 ls []) := by
      intro n14
      induction n14 with
      | zero => intro y14_4 H locs ls hr; exact nomatch (show none = some r from hr)
      | succ n14 ih14 =>
        intro y14_4 H locs ls hr hP hD hS hl
        replace hr : B_same_14 (F 18) 4480 (F 19) 280 p2 p3 (L_same_14 (F 18) 4480 (F 19) 280 p2 p3 n14) y14_4 = some r := hr
        unfold B_same_14 at hr
        refine lv_iload hx hb dX12_same_14 (lv_at hl 4 rfl) ?_
        refine lv_aload_n hx hb dX12_same_16 rfl (lv_at hl 1 rfl) ?_
        refine lv_iload_n hx hb dX12_same_17 rfl (lv_at hl 2 rfl) ?_
        replace hr := iteS hr
        obtain ⟨hi18, hr⟩ := hr
        refine va_iald (f := (F 19)) hx hb hK hP 11 1 rfl rfl (inbV hi18) dX12_same_18 ?_
        refine lv_icmp_ge (tgt := 51) hx hb dX12_same_19 (by decide) (fun c19 => ?_) (fun c19 => ?_)
        · replace hr := iteT c19 hr
          refine lv_iconst (v := 1) hx hb dX12_same_51 (by decide +kernel) ?_
          exact K 52 ls _ H _ hr (by decide) dX12_same_52 hP hD hS
        · replace hr := iteF c19 hr
          refine lv_aload_n hx hb dX12_same_22 rfl (lv_at hl 0 rfl) ?_
          refine lv_bipush (v := 16) hx hb dX12_same_23 (by decide +kernel) ?_
          refine lv_iload_n hx hb dX12_same_25 rfl (lv_at hl 2 rfl) ?_
          refine lv_imul hx hb dX12_same_26 ?_
          refine lv_iload hx hb dX12_same_27 (lv_at hl 4 rfl) ?_
          refine lv_iadd hx hb dX12_same_29 ?_
          replace hr := iteS hr
          obtain ⟨hi30, hr⟩ := hr
          refine va_bald (f := (F 18)) hx hb hK hP 10 0 rfl rfl (inbV hi30) dX12_same_30 ?_
          refine lv_aload_n hx hb dX12_same_31 rfl (lv_at hl 0 rfl) ?_
          refine lv_bipush (v := 16) hx hb dX12_same_32 (by decide +kernel) ?_
          refine lv_iload_n hx hb dX12_same_34 rfl (lv_at hl 3 rfl) ?_
          refine lv_imul hx hb dX12_same_35 ?_
          refine lv_iload hx hb dX12_same_36 (lv_at hl 4 rfl) ?_
          refine lv_iadd hx hb dX12_same_38 ?_
          replace hr := iteS hr
          obtain ⟨hi39, hr⟩ := hr
          refine va_bald (f := (F 18)) hx hb hK hP 10 0 rfl rfl (inbV hi39) dX12_same_39 ?_
          refine lv_icmp_eq (tgt := 45) hx hb dX12_same_40 (by decide) (fun c40 => ?_) (fun c40 => ?_)
          · replace hr := iteT c40 hr
            refine lv_iinc (v := (y14_4 + 1)) (lv' := [(4, .int (y14_4 + 1)), (0, .ref (q 18)), (1, .ref (q 19)), (2, .int p2), (3, .int p3)]) hx hb dX12_same_45 hl (k := 4) rfl rfl (by decide) rfl (fun ls hl => ?_)
            refine lv_goto (tgt := 14) hx hb dX12_same_48 (by decide) ?_
            exact ih14 (y14_4 + 1) H _ ls hr hP hD hS (lv_sub hl [1, 2, 3, 4, 0] rfl)
          · replace hr := iteF c40 hr
            refine lv_iconst (v := 0) hx hb dX12_same_43 (by decide +kernel) ?_
            exact K 44 ls _ H _ hr (by decide) dX12_same_44 hP hD hS
    exact lp14 NN 0 H _ ls hr hP hD hS (lv_sub hl [1, 2, 3, 4, 0] rfl)
  · replace hr := iteF c6 hr
    refine lv_iconst (v := 0) hx hb dX12_same_9 (by decide +kernel) ?_
    exact K 10 ls _ H _ hr (by decide) dX12_same_10 hP hD hS
set_option maxHeartbeats 4000000 in
set_option maxRecDepth 100000 in
theorem m_same_18_19 (l : Launch) (dC : Nat → ClassId) (dI : Nat → Nat → Nat) (sz : Nat) (h0 : Nat) (kB kI kZ : ClassId) (q : Nat → Nat) (g : Nat → Int32) (F : Nat → Nat → Int32) (p2 : Int32) (p3 : Int32) (r : Int32) (hr : f_same (F 18) 4480 (F 19) 280 p2 p3 = some r) : Met l yX12_same vmX12_same ({ frames := 2, cells := 0, slots := 0, locals := 60 } : Room) (va_Pc [.ref (q 18), .ref (q 19), .int p2, .int p3] (fun U => U.heap.size = sz ∧ va_P (dC, dI) vwCl (mW h0 kB kI kZ q g F) U.heap ∧ va_K (dC, dI) vwCl (mT kB kI kZ) U ∧ va_D (fun _ => True) (mW h0 kB kI kZ q g F))) (va_Qi (fun (rz : Int32) (_ : Unit) => rz = r) (fun _ t => va_P (dC, dI) vwCl (mW h0 kB kI kZ q g F) t.heap ∧ va_K (dC, dI) vwCl (mT kB kI kZ) t ∧ va_D (va_A (mW h0 kB kI kZ q g F) sz) (mW h0 kB kI kZ q g F)) (va_A (mW h0 kB kI kZ q g F) sz)) 0 0 (va_A (mW h0 kB kI kZ q g F) sz) := by
  refine Met.ofW (cc := cX12_same) (maxL := 5) (ret := (some .boolean)) (by decide) rfl ?_
  intro p e s m args below meth c s₁ B hml hv
  obtain ⟨rfl, hsz, hP, hK, hD0⟩ := hv
  have hx := B.exec
  have hb := B.bytes
  have hrt := B.returns
  have hts := atoms_spec (ws := vmX12_same) B.pre
  have hown : s.vm.findClass RX12 = some m.cls := findClass_of_methodNamed B.named
  subst hsz
  have hD := hD0.self (sz := s.heap.size)
  generalize hAe : va_A (mW h0 kB kI kZ q g F) s.heap.size = A at hD ⊢
  have hA : ∀ q : Nat, s.heap.size ≤ q → A q := fun q h => by rw [← hAe]; exact Or.inr h
  have hS : va_S A s.heap s.heap [] := va_S.rf
  have hl := lv_entry ([.ref (q 18), .ref (q 19), .int p2, .int p3]) (n := 5) (Nat.le_of_ble_eq_true rfl)
  rw [lg_entry_eq]
  generalize (lg_sl ([.ref (q 18), .ref (q 19), .int p2, .int p3]) ++ List.replicate (5 - (lg_sl ([.ref (q 18), .ref (q 19), .int p2, .int p3])).length) Slot.unset).toArray = ls at hl ⊢
  exact bm_same_18_19 p2 p3 r hr hx hb hml hown hts hA hK hP hD hS hl (fun pc ls rz H locs he hz hd hP hD hS => by cases he; exact W.zret (v := r) hx hb hrt (z_nb hz) (fun t ht hW => ⟨⟨r, (), rfl, rfl, by rw [ht]; exact hP, va_K.moved hW.alike hK, hD⟩, hS.F ht⟩) hS.2.2 hd)
set_option maxHeartbeats 4000000 in
set_option maxRecDepth 100000 in
theorem bm_same_20_21 {p : Program} {l : Launch} {e : Env} {s : State} {m : MethodId} {args : Array Value} {below : List Frame} {meth : Method} {c : Code} {Q : State → Prop} {A : Nat → Prop} {dC : Nat → ClassId} {dI : Nat → Nat → Nat} {h0 : Nat} {kB kI kZ : ClassId} {q : Nat → Nat} {g : Nat → Int32} {F : Nat → Nat → Int32} {H : Heap} {locs : List Loc} {ls : Array Slot} (p2 : Int32) (p3 : Int32) (r : Int32) (hr : f_same (F 20) 8960 (F 21) 560 p2 p3 = some r) (hx : p.tables.exec = Jvm.exec) (hb : c.code = cX12_same) (hml : c.maxLocals = 5) (hown : s.vm.findClass RX12 = some m.cls) (hts : ∀ w ∈ vmX12_same, w.before args s = true) (hA : ∀ q : Nat, s.heap.size ≤ q → A q) (hK : va_K (dC, dI) vwCl (mT kB kI kZ) s) (hP : va_P (dC, dI) vwCl (mW h0 kB kI kZ q g F) H) (hD : va_D A (mW h0 kB kI kZ q g F)) (hS : va_S A s.heap H locs) (hl : lv_has ls 5 [(0, .ref (q 20)), (1, .ref (q 21)), (2, .int p2), (3, .int p3)])
    (K : ∀ (pc : Nat) (ls : Array Slot) (rz : Int32) (H : Heap) (locs : List Loc), some rz = some r → is01 rz → decode cX12_same pc = .ok (.ireturn, 1) → va_P (dC, dI) vwCl (mW h0 kB kI kZ q g F) H → va_D A (mW h0 kB kI kZ q g F) → va_S A s.heap H locs → W p l e ({ frames := 2, cells := 0, slots := 0, locals := 60 } : Room) s m args below meth c H locs 0 0 Q (F0 m pc ls [.int rz])) : W p l e ({ frames := 2, cells := 0, slots := 0, locals := 60 } : Room) s m args below meth c H locs 0 0 Q (F0 m 0 ls []) := by
  unfold f_same at hr
  refine lv_aload_n hx hb dX12_same_0 rfl (lv_at hl 1 rfl) ?_
  refine lv_iload_n hx hb dX12_same_1 rfl (lv_at hl 2 rfl) ?_
  replace hr := iteS hr
  obtain ⟨hi2, hr⟩ := hr
  refine va_iald (f := (F 21)) hx hb hK hP 13 1 rfl rfl (inbV hi2) dX12_same_2 ?_
  refine lv_aload_n hx hb dX12_same_3 rfl (lv_at hl 1 rfl) ?_
  refine lv_iload_n hx hb dX12_same_4 rfl (lv_at hl 3 rfl) ?_
  replace hr := iteS hr
  obtain ⟨hi5, hr⟩ := hr
  refine va_iald (f := (F 21)) hx hb hK hP 13 1 rfl rfl (inbV hi5) dX12_same_5 ?_
  refine lv_icmp_eq (tgt := 11) hx hb dX12_same_6 (by decide) (fun c6 => ?_) (fun c6 => ?_)
  · replace hr := iteT c6 hr
    refine lv_iconst (v := 0) hx hb dX12_same_11 (by decide +kernel) ?_
    refine lv_istore (lv' := [(4, .int 0), (0, .ref (q 20)), (1, .ref (q 21)), (2, .int p2), (3, .int p3)]) hx hb dX12_same_12 hl (by decide) rfl (fun ls hl => ?_)
    have lp14 : ∀ (n14 : Nat) (y14_4 : Int32) (H : Heap) (locs : List Loc) (ls : Array Slot), L_same_14 (F 20) 8960 (F 21) 560 p2 p3 n14 y14_4 = some r → va_P (dC, dI) vwCl (mW h0 kB kI kZ q g F) H → va_D A (mW h0 kB kI kZ q g F) → va_S A s.heap H locs → lv_has ls 5 [(0, .ref (q 20)), (1, .ref (q 21)), (2, .int p2), (3, .int p3), (4, .int y14_4)] → W p l e ({ frames := 2, cells := 0, slots := 0, locals := 60 } : Room) s m args below meth c H locs 0 0 Q (F0 m 14 ls []) := by
      intro n14
      induction n14 with
      | zero => intro y14_4 H locs ls hr; exact nomatch (show none = some r from hr)
      | succ n14 ih14 =>
        intro y14_4 H locs ls hr hP hD hS hl
        replace hr : B_same_14 (F 20) 8960 (F 21) 560 p2 p3 (L_same_14 (F 20) 8960 (F 21) 560 p2 p3 n14) y14_4 = some r := hr
        unfold B_same_14 at hr
        refine lv_iload hx hb dX12_same_14 (lv_at hl 4 rfl) ?_
        refine lv_aload_n hx hb dX12_same_16 rfl (lv_at hl 1 rfl) ?_
        refine lv_iload_n hx hb dX12_same_17 rfl (lv_at hl 2 rfl) ?_
        replace hr := iteS hr
        obtain ⟨hi18, hr⟩ := hr
        refine va_iald (f := (F 21)) hx hb hK hP 13 1 rfl rfl (inbV hi18) dX12_same_18 ?_
        refine lv_icmp_ge (tgt := 51) hx hb dX12_same_19 (by decide) (fun c19 => ?_) (fun c19 => ?_)
        · replace hr := iteT c19 hr
          refine lv_iconst (v := 1) hx hb dX12_same_51 (by decide +kernel) ?_
          exact K 52 ls _ H _ hr (by decide) dX12_same_52 hP hD hS
        · replace hr := iteF c19 hr
          refine lv_aload_n hx hb dX12_same_22 rfl (lv_at hl 0 rfl) ?_
          refine lv_bipush (v := 16) hx hb dX12_same_23 (by decide +kernel) ?_
          refine lv_iload_n hx hb dX12_same_25 rfl (lv_at hl 2 rfl) ?_
          refine lv_imul hx hb dX12_same_26 ?_
          refine lv_iload hx hb dX12_same_27 (lv_at hl 4 rfl) ?_
          refine lv_iadd hx hb dX12_same_29 ?_
          replace hr := iteS hr
          obtain ⟨hi30, hr⟩ := hr
          refine va_bald (f := (F 20)) hx hb hK hP 12 0 rfl rfl (inbV hi30) dX12_same_30 ?_
          refine lv_aload_n hx hb dX12_same_31 rfl (lv_at hl 0 rfl) ?_
          refine lv_bipush (v := 16) hx hb dX12_same_32 (by decide +kernel) ?_
          refine lv_iload_n hx hb dX12_same_34 rfl (lv_at hl 3 rfl) ?_
          refine lv_imul hx hb dX12_same_35 ?_
          refine lv_iload hx hb dX12_same_36 (lv_at hl 4 rfl) ?_
          refine lv_iadd hx hb dX12_same_38 ?_
          replace hr := iteS hr
          obtain ⟨hi39, hr⟩ := hr
          refine va_bald (f := (F 20)) hx hb hK hP 12 0 rfl rfl (inbV hi39) dX12_same_39 ?_
          refine lv_icmp_eq (tgt := 45) hx hb dX12_same_40 (by decide) (fun c40 => ?_) (fun c40 => ?_)
          · replace hr := iteT c40 hr
            refine lv_iinc (v := (y14_4 + 1)) (lv' := [(4, .int (y14_4 + 1)), (0, .ref (q 20)), (1, .ref (q 21)), (2, .int p2), (3, .int p3)]) hx hb dX12_same_45 hl (k := 4) rfl rfl (by decide) rfl (fun ls hl => ?_)
            refine lv_goto (tgt := 14) hx hb dX12_same_48 (by decide) ?_
            exact ih14 (y14_4 + 1) H _ ls hr hP hD hS (lv_sub hl [1, 2, 3, 4, 0] rfl)
          · replace hr := iteF c40 hr
            refine lv_iconst (v := 0) hx hb dX12_same_43 (by decide +kernel) ?_
            exact K 44 ls _ H _ hr (by decide) dX12_same_44 hP hD hS
    exact lp14 NN 0 H _ ls hr hP hD hS (lv_sub hl [1, 2, 3, 4, 0] rfl)
  · replace hr := iteF c6 hr
    refine lv_iconst (v := 0) hx hb dX12_same_9 (by decide +kernel) ?_
    exact K 10 ls _ H _ hr (by decide) dX12_same_10 hP hD hS
set_option maxHeartbeats 4000000 in
set_option maxRecDepth 100000 in
theorem m_same_20_21 (l : Launch) (dC : Nat → ClassId) (dI : Nat → Nat → Nat) (sz : Nat) (h0 : Nat) (kB kI kZ : ClassId) (q : Nat → Nat) (g : Nat → Int32) (F : Nat → Nat → Int32) (p2 : Int32) (p3 : Int32) (r : Int32) (hr : f_same (F 20) 8960 (F 21) 560 p2 p3 = some r) : Met l yX12_same vmX12_same ({ frames := 2, cells := 0, slots := 0, locals := 60 } : Room) (va_Pc [.ref (q 20), .ref (q 21), .int p2, .int p3] (fun U => U.heap.size = sz ∧ va_P (dC, dI) vwCl (mW h0 kB kI kZ q g F) U.heap ∧ va_K (dC, dI) vwCl (mT kB kI kZ) U ∧ va_D (fun _ => True) (mW h0 kB kI kZ q g F))) (va_Qi (fun (rz : Int32) (_ : Unit) => rz = r) (fun _ t => va_P (dC, dI) vwCl (mW h0 kB kI kZ q g F) t.heap ∧ va_K (dC, dI) vwCl (mT kB kI kZ) t ∧ va_D (va_A (mW h0 kB kI kZ q g F) sz) (mW h0 kB kI kZ q g F)) (va_A (mW h0 kB kI kZ q g F) sz)) 0 0 (va_A (mW h0 kB kI kZ q g F) sz) := by
  refine Met.ofW (cc := cX12_same) (maxL := 5) (ret := (some .boolean)) (by decide) rfl ?_
  intro p e s m args below meth c s₁ B hml hv
  obtain ⟨rfl, hsz, hP, hK, hD0⟩ := hv
  have hx := B.exec
  have hb := B.bytes
  have hrt := B.returns
  have hts := atoms_spec (ws := vmX12_same) B.pre
  have hown : s.vm.findClass RX12 = some m.cls := findClass_of_methodNamed B.named
  subst hsz
  have hD := hD0.self (sz := s.heap.size)
  generalize hAe : va_A (mW h0 kB kI kZ q g F) s.heap.size = A at hD ⊢
  have hA : ∀ q : Nat, s.heap.size ≤ q → A q := fun q h => by rw [← hAe]; exact Or.inr h
  have hS : va_S A s.heap s.heap [] := va_S.rf
  have hl := lv_entry ([.ref (q 20), .ref (q 21), .int p2, .int p3]) (n := 5) (Nat.le_of_ble_eq_true rfl)
  rw [lg_entry_eq]
  generalize (lg_sl ([.ref (q 20), .ref (q 21), .int p2, .int p3]) ++ List.replicate (5 - (lg_sl ([.ref (q 20), .ref (q 21), .int p2, .int p3])).length) Slot.unset).toArray = ls at hl ⊢
  exact bm_same_20_21 p2 p3 r hr hx hb hml hown hts hA hK hP hD hS hl (fun pc ls rz H locs he hz hd hP hD hS => by cases he; exact W.zret (v := r) hx hb hrt (z_nb hz) (fun t ht hW => ⟨⟨r, (), rfl, rfl, by rw [ht]; exact hP, va_K.moved hW.alike hK, hD⟩, hS.F ht⟩) hS.2.2 hd)
