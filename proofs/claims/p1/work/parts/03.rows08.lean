theorem dX12_mixed_480 : decode cX12_mixed 480 = .ok (.iadd, 1) := by decide +kernel
theorem dX12_mixed_481 : decode cX12_mixed 481 = .ok (.iaload, 1) := by decide +kernel
theorem dX12_mixed_482 : decode cX12_mixed 482 = .ok (.iload 7, 2) := by decide +kernel
theorem dX12_mixed_484 : decode cX12_mixed 484 = .ok (.iconst (-1), 1) := by decide +kernel
theorem dX12_mixed_485 : decode cX12_mixed 485 = .ok (.if_icmp .eq 10, 3) := by decide +kernel
theorem dX12_mixed_495 : decode cX12_mixed 495 = .ok (.iconst 0, 1) := by decide +kernel
theorem dX12_mixed_496 : decode cX12_mixed 496 = .ok (.goto 4, 3) := by decide +kernel
theorem dX12_mixed_500 : decode cX12_mixed 500 = .ok (.iadd, 1) := by decide +kernel
theorem dX12_mixed_501 : decode cX12_mixed 501 = .ok (.iload 9, 2) := by decide +kernel
theorem dX12_mixed_503 : decode cX12_mixed 503 = .ok (.if_icmp .eq 9, 3) := by decide +kernel
theorem dX12_mixed_512 : decode cX12_mixed 512 = .ok (.aload_n 0, 1) := by decide +kernel
theorem dX12_mixed_513 : decode cX12_mixed 513 = .ok (.getfield 149, 3) := by decide +kernel
theorem dX12_mixed_516 : decode cX12_mixed 516 = .ok (.iload 8, 2) := by decide +kernel
theorem dX12_mixed_518 : decode cX12_mixed 518 = .ok (.iload 10, 2) := by decide +kernel
theorem dX12_mixed_520 : decode cX12_mixed 520 = .ok (.iastore, 1) := by decide +kernel
theorem dX12_mixed_521 : decode cX12_mixed 521 = .ok (.iload 10, 2) := by decide +kernel
theorem dX12_mixed_523 : decode cX12_mixed 523 = .ok (.istore 7, 2) := by decide +kernel
theorem dX12_mixed_525 : decode cX12_mixed 525 = .ok (.iinc 8 1, 3) := by decide +kernel
theorem dX12_mixed_528 : decode cX12_mixed 528 = .ok (.goto (-79), 3) := by decide +kernel
theorem dX12_mixed_531 : decode cX12_mixed 531 = .ok (.iload 6, 2) := by decide +kernel
theorem dX12_mixed_533 : decode cX12_mixed 533 = .ok (.ireturn, 1) := by decide +kernel
theorem dX12_onward_0 : decode cX12_onward 0 = .ok (.ldc_w 379, 3) := by decide +kernel
theorem dX12_onward_3 : decode cX12_onward 3 = .ok (.istore 4, 2) := by decide +kernel
theorem dX12_onward_5 : decode cX12_onward 5 = .ok (.iconst 0, 1) := by decide +kernel
theorem dX12_onward_6 : decode cX12_onward 6 = .ok (.istore 5, 2) := by decide +kernel
theorem dX12_onward_8 : decode cX12_onward 8 = .ok (.iload 5, 2) := by decide +kernel
theorem dX12_onward_10 : decode cX12_onward 10 = .ok (.aload_n 0, 1) := by decide +kernel
theorem dX12_onward_11 : decode cX12_onward 11 = .ok (.getfield 222, 3) := by decide +kernel
theorem dX12_onward_14 : decode cX12_onward 14 = .ok (.if_icmp .gt 56, 3) := by decide +kernel
theorem dX12_onward_17 : decode cX12_onward 17 = .ok (.aload_n 0, 1) := by decide +kernel
theorem dX12_onward_18 : decode cX12_onward 18 = .ok (.getfield 146, 3) := by decide +kernel
theorem dX12_onward_21 : decode cX12_onward 21 = .ok (.bipush 7, 2) := by decide +kernel
theorem dX12_onward_23 : decode cX12_onward 23 = .ok (.iload_n 1, 1) := by decide +kernel
theorem dX12_onward_24 : decode cX12_onward 24 = .ok (.imul, 1) := by decide +kernel
theorem dX12_onward_25 : decode cX12_onward 25 = .ok (.iload 5, 2) := by decide +kernel
theorem dX12_onward_27 : decode cX12_onward 27 = .ok (.iadd, 1) := by decide +kernel
theorem dX12_onward_28 : decode cX12_onward 28 = .ok (.iaload, 1) := by decide +kernel
theorem dX12_onward_29 : decode cX12_onward 29 = .ok (.iload_n 2, 1) := by decide +kernel
theorem dX12_onward_30 : decode cX12_onward 30 = .ok (.iconst (-1), 1) := by decide +kernel
theorem dX12_onward_31 : decode cX12_onward 31 = .ok (.if_icmp .eq 9, 3) := by decide +kernel
theorem dX12_onward_40 : decode cX12_onward 40 = .ok (.iconst 0, 1) := by decide +kernel
theorem dX12_onward_41 : decode cX12_onward 41 = .ok (.goto 4, 3) := by decide +kernel
theorem dX12_onward_45 : decode cX12_onward 45 = .ok (.iadd, 1) := by decide +kernel
theorem dX12_onward_46 : decode cX12_onward 46 = .ok (.istore 6, 2) := by decide +kernel
theorem dX12_onward_48 : decode cX12_onward 48 = .ok (.iload 6, 2) := by decide +kernel
theorem dX12_onward_50 : decode cX12_onward 50 = .ok (.iload 4, 2) := by decide +kernel
theorem dX12_onward_52 : decode cX12_onward 52 = .ok (.if_icmp .ge 8, 3) := by decide +kernel
theorem dX12_onward_55 : decode cX12_onward 55 = .ok (.iload 6, 2) := by decide +kernel
theorem dX12_onward_57 : decode cX12_onward 57 = .ok (.goto 5, 3) := by decide +kernel
theorem dX12_onward_62 : decode cX12_onward 62 = .ok (.istore 4, 2) := by decide +kernel
theorem dX12_onward_64 : decode cX12_onward 64 = .ok (.iinc 5 1, 3) := by decide +kernel
theorem dX12_onward_67 : decode cX12_onward 67 = .ok (.goto (-59), 3) := by decide +kernel
theorem dX12_onward_70 : decode cX12_onward 70 = .ok (.iload 4, 2) := by decide +kernel
theorem dX12_onward_72 : decode cX12_onward 72 = .ok (.ireturn, 1) := by decide +kernel
set_option maxRecDepth 20000 in
theorem ggX12_line_X12_in : GoodIn wsX12_line wsX12_in := goodIn_r _ [6] (by decide +kernel) (by decide +kernel)
set_option maxRecDepth 20000 in
theorem gX12_line_X12_in : GoodIn wsX12_line (va_wsS RX12 226 yX12_in wsX12_in) := goodIn_app (goodIn_of _ (by decide +kernel)) ggX12_line_X12_in
theorem dX12_line_0 : decode cX12_line 0 = .ok (.iload_n 1, 1) := by decide +kernel
theorem dX12_line_1 : decode cX12_line 1 = .ok (.iconst 0, 1) := by decide +kernel
theorem dX12_line_2 : decode cX12_line 2 = .ok (.aload_n 0, 1) := by decide +kernel
theorem dX12_line_3 : decode cX12_line 3 = .ok (.getfield 374, 3) := by decide +kernel
theorem dX12_line_6 : decode cX12_line 6 = .ok (.iconst 1, 1) := by decide +kernel
theorem dX12_line_7 : decode cX12_line 7 = .ok (.isub, 1) := by decide +kernel
theorem dX12_line_8 : decode cX12_line 8 = .ok (.invokestatic 226, 3) := by decide +kernel
theorem dX12_line_11 : decode cX12_line 11 = .ok (.ifCond .eq 12, 3) := by decide +kernel
theorem dX12_line_23 : decode cX12_line 23 = .ok (.iconst (-1), 1) := by decide +kernel
theorem dX12_line_24 : decode cX12_line 24 = .ok (.ireturn, 1) := by decide +kernel
theorem dX12_count_0 : decode cX12_count 0 = .ok (.iload_n 1, 1) := by decide +kernel
theorem dX12_count_1 : decode cX12_count 1 = .ok (.ifCond .ne 10, 3) := by decide +kernel
theorem dX12_count_4 : decode cX12_count 4 = .ok (.aload_n 0, 1) := by decide +kernel
theorem dX12_count_5 : decode cX12_count 5 = .ok (.getfield 222, 3) := by decide +kernel
theorem dX12_count_8 : decode cX12_count 8 = .ok (.goto 28, 3) := by decide +kernel
theorem dX12_count_11 : decode cX12_count 11 = .ok (.iload_n 1, 1) := by decide +kernel
theorem dX12_count_12 : decode cX12_count 12 = .ok (.iconst 1, 1) := by decide +kernel
theorem dX12_count_13 : decode cX12_count 13 = .ok (.if_icmp .ne 10, 3) := by decide +kernel
theorem dX12_count_16 : decode cX12_count 16 = .ok (.aload_n 0, 1) := by decide +kernel
theorem dX12_count_17 : decode cX12_count 17 = .ok (.getfield 312, 3) := by decide +kernel
theorem dX12_count_20 : decode cX12_count 20 = .ok (.goto 16, 3) := by decide +kernel
theorem dX12_count_23 : decode cX12_count 23 = .ok (.iload_n 1, 1) := by decide +kernel
theorem dX12_count_24 : decode cX12_count 24 = .ok (.iconst 2, 1) := by decide +kernel
theorem dX12_count_25 : decode cX12_count 25 = .ok (.if_icmp .ne 10, 3) := by decide +kernel
theorem dX12_count_28 : decode cX12_count 28 = .ok (.aload_n 0, 1) := by decide +kernel
theorem dX12_count_29 : decode cX12_count 29 = .ok (.getfield 152, 3) := by decide +kernel
theorem dX12_count_32 : decode cX12_count 32 = .ok (.goto 4, 3) := by decide +kernel
theorem dX12_count_35 : decode cX12_count 35 = .ok (.iconst (-1), 1) := by decide +kernel
theorem dX12_count_36 : decode cX12_count 36 = .ok (.ireturn, 1) := by decide +kernel
