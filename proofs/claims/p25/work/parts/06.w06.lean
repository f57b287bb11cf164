theorem gd_X12_keyAt_0 : decode cX12_keyAt 0 = .ok (.iconst 0, 1) ∧ decode cX12_keyAt 1 = .ok (.istore_n 3, 1) ∧ decode cX12_keyAt 2 = .ok (.iconst 0, 1) ∧ decode cX12_keyAt 3 = .ok (.istore 4, 2) ∧ decode cX12_keyAt 5 = .ok (.iconst 0, 1) ∧ decode cX12_keyAt 6 = .ok (.istore 5, 2) ∧ decode cX12_keyAt 8 = .ok (.iload 5, 2) ∧ decode cX12_keyAt 10 = .ok (.ldc 158, 2) ∧ decode cX12_keyAt 12 = .ok (.invokevirtual 160, 3) ∧ decode cX12_keyAt 15 = .ok (.if_icmp .ge 104, 3) := by decide +kernel
theorem dX12_keyAt_0 : decode cX12_keyAt 0 = .ok (.iconst 0, 1) := gd_X12_keyAt_0.1
theorem dX12_keyAt_1 : decode cX12_keyAt 1 = .ok (.istore_n 3, 1) := gd_X12_keyAt_0.2.1
theorem dX12_keyAt_2 : decode cX12_keyAt 2 = .ok (.iconst 0, 1) := gd_X12_keyAt_0.2.2.1
theorem dX12_keyAt_3 : decode cX12_keyAt 3 = .ok (.istore 4, 2) := gd_X12_keyAt_0.2.2.2.1
theorem dX12_keyAt_5 : decode cX12_keyAt 5 = .ok (.iconst 0, 1) := gd_X12_keyAt_0.2.2.2.2.1
theorem dX12_keyAt_6 : decode cX12_keyAt 6 = .ok (.istore 5, 2) := gd_X12_keyAt_0.2.2.2.2.2.1
theorem dX12_keyAt_8 : decode cX12_keyAt 8 = .ok (.iload 5, 2) := gd_X12_keyAt_0.2.2.2.2.2.2.1
theorem dX12_keyAt_10 : decode cX12_keyAt 10 = .ok (.ldc 158, 2) := gd_X12_keyAt_0.2.2.2.2.2.2.2.1
theorem dX12_keyAt_12 : decode cX12_keyAt 12 = .ok (.invokevirtual 160, 3) := gd_X12_keyAt_0.2.2.2.2.2.2.2.2.1
theorem dX12_keyAt_15 : decode cX12_keyAt 15 = .ok (.if_icmp .ge 104, 3) := gd_X12_keyAt_0.2.2.2.2.2.2.2.2.2
theorem gd_X12_keyAt_18 : decode cX12_keyAt 18 = .ok (.ldc 158, 2) ∧ decode cX12_keyAt 20 = .ok (.iload 5, 2) ∧ decode cX12_keyAt 22 = .ok (.invokevirtual 166, 3) ∧ decode cX12_keyAt 25 = .ok (.bipush 32, 2) ∧ decode cX12_keyAt 27 = .ok (.if_icmp .eq 6, 3) ∧ decode cX12_keyAt 30 = .ok (.goto 83, 3) ∧ decode cX12_keyAt 33 = .ok (.iload 5, 2) ∧ decode cX12_keyAt 35 = .ok (.iload 4, 2) ∧ decode cX12_keyAt 37 = .ok (.isub, 1) ∧ decode cX12_keyAt 38 = .ok (.iload_n 2, 1) := by decide +kernel
theorem dX12_keyAt_18 : decode cX12_keyAt 18 = .ok (.ldc 158, 2) := gd_X12_keyAt_18.1
theorem dX12_keyAt_20 : decode cX12_keyAt 20 = .ok (.iload 5, 2) := gd_X12_keyAt_18.2.1
theorem dX12_keyAt_22 : decode cX12_keyAt 22 = .ok (.invokevirtual 166, 3) := gd_X12_keyAt_18.2.2.1
theorem dX12_keyAt_25 : decode cX12_keyAt 25 = .ok (.bipush 32, 2) := gd_X12_keyAt_18.2.2.2.1
theorem dX12_keyAt_27 : decode cX12_keyAt 27 = .ok (.if_icmp .eq 6, 3) := gd_X12_keyAt_18.2.2.2.2.1
theorem dX12_keyAt_30 : decode cX12_keyAt 30 = .ok (.goto 83, 3) := gd_X12_keyAt_18.2.2.2.2.2.1
theorem dX12_keyAt_33 : decode cX12_keyAt 33 = .ok (.iload 5, 2) := gd_X12_keyAt_18.2.2.2.2.2.2.1
theorem dX12_keyAt_35 : decode cX12_keyAt 35 = .ok (.iload 4, 2) := gd_X12_keyAt_18.2.2.2.2.2.2.2.1
theorem dX12_keyAt_37 : decode cX12_keyAt 37 = .ok (.isub, 1) := gd_X12_keyAt_18.2.2.2.2.2.2.2.2.1
theorem dX12_keyAt_38 : decode cX12_keyAt 38 = .ok (.iload_n 2, 1) := gd_X12_keyAt_18.2.2.2.2.2.2.2.2.2
theorem gd_X12_keyAt_39 : decode cX12_keyAt 39 = .ok (.if_icmp .ne 7, 3) ∧ decode cX12_keyAt 42 = .ok (.iconst 1, 1) ∧ decode cX12_keyAt 43 = .ok (.goto 4, 3) ∧ decode cX12_keyAt 46 = .ok (.iconst 0, 1) ∧ decode cX12_keyAt 47 = .ok (.istore 6, 2) ∧ decode cX12_keyAt 49 = .ok (.iconst 0, 1) ∧ decode cX12_keyAt 50 = .ok (.istore 7, 2) ∧ decode cX12_keyAt 52 = .ok (.iload 7, 2) ∧ decode cX12_keyAt 54 = .ok (.iload_n 2, 1) ∧ decode cX12_keyAt 55 = .ok (.if_icmp .ge 42, 3) := by decide +kernel
theorem dX12_keyAt_39 : decode cX12_keyAt 39 = .ok (.if_icmp .ne 7, 3) := gd_X12_keyAt_39.1
theorem dX12_keyAt_42 : decode cX12_keyAt 42 = .ok (.iconst 1, 1) := gd_X12_keyAt_39.2.1
theorem dX12_keyAt_43 : decode cX12_keyAt 43 = .ok (.goto 4, 3) := gd_X12_keyAt_39.2.2.1
theorem dX12_keyAt_46 : decode cX12_keyAt 46 = .ok (.iconst 0, 1) := gd_X12_keyAt_39.2.2.2.1
theorem dX12_keyAt_47 : decode cX12_keyAt 47 = .ok (.istore 6, 2) := gd_X12_keyAt_39.2.2.2.2.1
theorem dX12_keyAt_49 : decode cX12_keyAt 49 = .ok (.iconst 0, 1) := gd_X12_keyAt_39.2.2.2.2.2.1
theorem dX12_keyAt_50 : decode cX12_keyAt 50 = .ok (.istore 7, 2) := gd_X12_keyAt_39.2.2.2.2.2.2.1
theorem dX12_keyAt_52 : decode cX12_keyAt 52 = .ok (.iload 7, 2) := gd_X12_keyAt_39.2.2.2.2.2.2.2.1
theorem dX12_keyAt_54 : decode cX12_keyAt 54 = .ok (.iload_n 2, 1) := gd_X12_keyAt_39.2.2.2.2.2.2.2.2.1
theorem dX12_keyAt_55 : decode cX12_keyAt 55 = .ok (.if_icmp .ge 42, 3) := gd_X12_keyAt_39.2.2.2.2.2.2.2.2.2
theorem gd_X12_keyAt_58 : decode cX12_keyAt 58 = .ok (.iload 6, 2) ∧ decode cX12_keyAt 60 = .ok (.ifCond .eq 37, 3) ∧ decode cX12_keyAt 63 = .ok (.ldc 158, 2) ∧ decode cX12_keyAt 65 = .ok (.iload 4, 2) ∧ decode cX12_keyAt 67 = .ok (.iload 7, 2) ∧ decode cX12_keyAt 69 = .ok (.iadd, 1) ∧ decode cX12_keyAt 70 = .ok (.invokevirtual 166, 3) ∧ decode cX12_keyAt 73 = .ok (.aload_n 0, 1) ∧ decode cX12_keyAt 74 = .ok (.iload_n 1, 1) ∧ decode cX12_keyAt 75 = .ok (.iload 7, 2) := by decide +kernel
theorem dX12_keyAt_58 : decode cX12_keyAt 58 = .ok (.iload 6, 2) := gd_X12_keyAt_58.1
theorem dX12_keyAt_60 : decode cX12_keyAt 60 = .ok (.ifCond .eq 37, 3) := gd_X12_keyAt_58.2.1
theorem dX12_keyAt_63 : decode cX12_keyAt 63 = .ok (.ldc 158, 2) := gd_X12_keyAt_58.2.2.1
theorem dX12_keyAt_65 : decode cX12_keyAt 65 = .ok (.iload 4, 2) := gd_X12_keyAt_58.2.2.2.1
theorem dX12_keyAt_67 : decode cX12_keyAt 67 = .ok (.iload 7, 2) := gd_X12_keyAt_58.2.2.2.2.1
theorem dX12_keyAt_69 : decode cX12_keyAt 69 = .ok (.iadd, 1) := gd_X12_keyAt_58.2.2.2.2.2.1
theorem dX12_keyAt_70 : decode cX12_keyAt 70 = .ok (.invokevirtual 166, 3) := gd_X12_keyAt_58.2.2.2.2.2.2.1
theorem dX12_keyAt_73 : decode cX12_keyAt 73 = .ok (.aload_n 0, 1) := gd_X12_keyAt_58.2.2.2.2.2.2.2.1
theorem dX12_keyAt_74 : decode cX12_keyAt 74 = .ok (.iload_n 1, 1) := gd_X12_keyAt_58.2.2.2.2.2.2.2.2.1
theorem dX12_keyAt_75 : decode cX12_keyAt 75 = .ok (.iload 7, 2) := gd_X12_keyAt_58.2.2.2.2.2.2.2.2.2
theorem gd_X12_keyAt_77 : decode cX12_keyAt 77 = .ok (.iadd, 1) ∧ decode cX12_keyAt 78 = .ok (.invokevirtual 170, 3) ∧ decode cX12_keyAt 81 = .ok (.if_icmp .ne 7, 3) ∧ decode cX12_keyAt 84 = .ok (.iconst 1, 1) ∧ decode cX12_keyAt 85 = .ok (.goto 4, 3) ∧ decode cX12_keyAt 88 = .ok (.iconst 0, 1) ∧ decode cX12_keyAt 89 = .ok (.istore 6, 2) ∧ decode cX12_keyAt 91 = .ok (.iinc 7 1, 3) ∧ decode cX12_keyAt 94 = .ok (.goto (-42), 3) ∧ decode cX12_keyAt 97 = .ok (.iload 6, 2) := by decide +kernel
theorem dX12_keyAt_77 : decode cX12_keyAt 77 = .ok (.iadd, 1) := gd_X12_keyAt_77.1
theorem dX12_keyAt_78 : decode cX12_keyAt 78 = .ok (.invokevirtual 170, 3) := gd_X12_keyAt_77.2.1
theorem dX12_keyAt_81 : decode cX12_keyAt 81 = .ok (.if_icmp .ne 7, 3) := gd_X12_keyAt_77.2.2.1
theorem dX12_keyAt_84 : decode cX12_keyAt 84 = .ok (.iconst 1, 1) := gd_X12_keyAt_77.2.2.2.1
theorem dX12_keyAt_85 : decode cX12_keyAt 85 = .ok (.goto 4, 3) := gd_X12_keyAt_77.2.2.2.2.1
theorem dX12_keyAt_88 : decode cX12_keyAt 88 = .ok (.iconst 0, 1) := gd_X12_keyAt_77.2.2.2.2.2.1
theorem dX12_keyAt_89 : decode cX12_keyAt 89 = .ok (.istore 6, 2) := gd_X12_keyAt_77.2.2.2.2.2.2.1
theorem dX12_keyAt_91 : decode cX12_keyAt 91 = .ok (.iinc 7 1, 3) := gd_X12_keyAt_77.2.2.2.2.2.2.2.1
theorem dX12_keyAt_94 : decode cX12_keyAt 94 = .ok (.goto (-42), 3) := gd_X12_keyAt_77.2.2.2.2.2.2.2.2.1
theorem dX12_keyAt_97 : decode cX12_keyAt 97 = .ok (.iload 6, 2) := gd_X12_keyAt_77.2.2.2.2.2.2.2.2.2
theorem gd_X12_keyAt_99 : decode cX12_keyAt 99 = .ok (.ifCond .eq 5, 3) ∧ decode cX12_keyAt 102 = .ok (.iload_n 3, 1) ∧ decode cX12_keyAt 103 = .ok (.ireturn, 1) ∧ decode cX12_keyAt 104 = .ok (.iinc 3 1, 3) ∧ decode cX12_keyAt 107 = .ok (.iload 5, 2) ∧ decode cX12_keyAt 109 = .ok (.iconst 1, 1) ∧ decode cX12_keyAt 110 = .ok (.iadd, 1) ∧ decode cX12_keyAt 111 = .ok (.istore 4, 2) ∧ decode cX12_keyAt 113 = .ok (.iinc 5 1, 3) ∧ decode cX12_keyAt 116 = .ok (.goto (-108), 3) := by decide +kernel
theorem dX12_keyAt_99 : decode cX12_keyAt 99 = .ok (.ifCond .eq 5, 3) := gd_X12_keyAt_99.1
theorem dX12_keyAt_102 : decode cX12_keyAt 102 = .ok (.iload_n 3, 1) := gd_X12_keyAt_99.2.1
theorem dX12_keyAt_103 : decode cX12_keyAt 103 = .ok (.ireturn, 1) := gd_X12_keyAt_99.2.2.1
theorem dX12_keyAt_104 : decode cX12_keyAt 104 = .ok (.iinc 3 1, 3) := gd_X12_keyAt_99.2.2.2.1
theorem dX12_keyAt_107 : decode cX12_keyAt 107 = .ok (.iload 5, 2) := gd_X12_keyAt_99.2.2.2.2.1
theorem dX12_keyAt_109 : decode cX12_keyAt 109 = .ok (.iconst 1, 1) := gd_X12_keyAt_99.2.2.2.2.2.1
theorem dX12_keyAt_110 : decode cX12_keyAt 110 = .ok (.iadd, 1) := gd_X12_keyAt_99.2.2.2.2.2.2.1
theorem dX12_keyAt_111 : decode cX12_keyAt 111 = .ok (.istore 4, 2) := gd_X12_keyAt_99.2.2.2.2.2.2.2.1
theorem dX12_keyAt_113 : decode cX12_keyAt 113 = .ok (.iinc 5 1, 3) := gd_X12_keyAt_99.2.2.2.2.2.2.2.2.1
theorem dX12_keyAt_116 : decode cX12_keyAt 116 = .ok (.goto (-108), 3) := gd_X12_keyAt_99.2.2.2.2.2.2.2.2.2
theorem gd_X12_keyAt_119 : decode cX12_keyAt 119 = .ok (.iconst (-1), 1) ∧ decode cX12_keyAt 120 = .ok (.ireturn, 1) ∧ decode cX12_scan 25 = .ok (.iinc 1 1, 3) ∧ decode cX12_scan 28 = .ok (.goto (-23), 3) ∧ decode cX12_scan 61 = .ok (.iload_n 2, 1) ∧ decode cX12_scan 62 = .ok (.invokestatic 183, 3) ∧ decode cX12_scan 65 = .ok (.ifCond .eq 52, 3) ∧ decode cX12_scan 68 = .ok (.aload_n 0, 1) ∧ decode cX12_scan 69 = .ok (.iload_n 3, 1) ∧ decode cX12_scan 70 = .ok (.invokevirtual 170, 3) := by decide +kernel
theorem dX12_keyAt_119 : decode cX12_keyAt 119 = .ok (.iconst (-1), 1) := gd_X12_keyAt_119.1
theorem dX12_keyAt_120 : decode cX12_keyAt 120 = .ok (.ireturn, 1) := gd_X12_keyAt_119.2.1
theorem dX12_scan_25 : decode cX12_scan 25 = .ok (.iinc 1 1, 3) := gd_X12_keyAt_119.2.2.1
theorem dX12_scan_28 : decode cX12_scan 28 = .ok (.goto (-23), 3) := gd_X12_keyAt_119.2.2.2.1
theorem dX12_scan_61 : decode cX12_scan 61 = .ok (.iload_n 2, 1) := gd_X12_keyAt_119.2.2.2.2.1
theorem dX12_scan_62 : decode cX12_scan 62 = .ok (.invokestatic 183, 3) := gd_X12_keyAt_119.2.2.2.2.2.1
theorem dX12_scan_65 : decode cX12_scan 65 = .ok (.ifCond .eq 52, 3) := gd_X12_keyAt_119.2.2.2.2.2.2.1
theorem dX12_scan_68 : decode cX12_scan 68 = .ok (.aload_n 0, 1) := gd_X12_keyAt_119.2.2.2.2.2.2.2.1
theorem dX12_scan_69 : decode cX12_scan 69 = .ok (.iload_n 3, 1) := gd_X12_keyAt_119.2.2.2.2.2.2.2.2.1
theorem dX12_scan_70 : decode cX12_scan 70 = .ok (.invokevirtual 170, 3) := gd_X12_keyAt_119.2.2.2.2.2.2.2.2.2
theorem gd_X12_scan_73 : decode cX12_scan 73 = .ok (.invokestatic 183, 3) ∧ decode cX12_scan 76 = .ok (.ifCond .eq 9, 3) ∧ decode cX12_scan 79 = .ok (.iinc 3 1, 3) ∧ decode cX12_scan 82 = .ok (.goto (-14), 3) ∧ decode cX12_scan 85 = .ok (.aload_n 0, 1) ∧ decode cX12_scan 86 = .ok (.aload_n 0, 1) ∧ decode cX12_scan 87 = .ok (.iload_n 1, 1) ∧ decode cX12_scan 88 = .ok (.iload_n 3, 1) ∧ decode cX12_scan 89 = .ok (.iload_n 1, 1) ∧ decode cX12_scan 90 = .ok (.isub, 1) := by decide +kernel
theorem dX12_scan_73 : decode cX12_scan 73 = .ok (.invokestatic 183, 3) := gd_X12_scan_73.1
theorem dX12_scan_76 : decode cX12_scan 76 = .ok (.ifCond .eq 9, 3) := gd_X12_scan_73.2.1
theorem dX12_scan_79 : decode cX12_scan 79 = .ok (.iinc 3 1, 3) := gd_X12_scan_73.2.2.1
theorem dX12_scan_82 : decode cX12_scan 82 = .ok (.goto (-14), 3) := gd_X12_scan_73.2.2.2.1
theorem dX12_scan_85 : decode cX12_scan 85 = .ok (.aload_n 0, 1) := gd_X12_scan_73.2.2.2.2.1
theorem dX12_scan_86 : decode cX12_scan 86 = .ok (.aload_n 0, 1) := gd_X12_scan_73.2.2.2.2.2.1
theorem dX12_scan_87 : decode cX12_scan 87 = .ok (.iload_n 1, 1) := gd_X12_scan_73.2.2.2.2.2.2.1
theorem dX12_scan_88 : decode cX12_scan 88 = .ok (.iload_n 3, 1) := gd_X12_scan_73.2.2.2.2.2.2.2.1
theorem dX12_scan_89 : decode cX12_scan 89 = .ok (.iload_n 1, 1) := gd_X12_scan_73.2.2.2.2.2.2.2.2.1
theorem dX12_scan_90 : decode cX12_scan 90 = .ok (.isub, 1) := gd_X12_scan_73.2.2.2.2.2.2.2.2.2
theorem gd_X12_scan_91 : decode cX12_scan 91 = .ok (.invokevirtual 187, 3) ∧ decode cX12_scan 94 = .ok (.putfield 191, 3) ∧ decode cX12_scan 97 = .ok (.aload_n 0, 1) ∧ decode cX12_scan 98 = .ok (.aload_n 0, 1) ∧ decode cX12_scan 99 = .ok (.getfield 191, 3) ∧ decode cX12_scan 102 = .ok (.iconst (-1), 1) ∧ decode cX12_scan 103 = .ok (.if_icmp .ne 7, 3) ∧ decode cX12_scan 106 = .ok (.iconst 0, 1) ∧ decode cX12_scan 107 = .ok (.goto 4, 3) ∧ decode cX12_scan 110 = .ok (.iconst 1, 1) := by decide +kernel
theorem dX12_scan_91 : decode cX12_scan 91 = .ok (.invokevirtual 187, 3) := gd_X12_scan_91.1
theorem dX12_scan_94 : decode cX12_scan 94 = .ok (.putfield 191, 3) := gd_X12_scan_91.2.1
theorem dX12_scan_97 : decode cX12_scan 97 = .ok (.aload_n 0, 1) := gd_X12_scan_91.2.2.1
theorem dX12_scan_98 : decode cX12_scan 98 = .ok (.aload_n 0, 1) := gd_X12_scan_91.2.2.2.1
theorem dX12_scan_99 : decode cX12_scan 99 = .ok (.getfield 191, 3) := gd_X12_scan_91.2.2.2.2.1
theorem dX12_scan_102 : decode cX12_scan 102 = .ok (.iconst (-1), 1) := gd_X12_scan_91.2.2.2.2.2.1
theorem dX12_scan_103 : decode cX12_scan 103 = .ok (.if_icmp .ne 7, 3) := gd_X12_scan_91.2.2.2.2.2.2.1
theorem dX12_scan_106 : decode cX12_scan 106 = .ok (.iconst 0, 1) := gd_X12_scan_91.2.2.2.2.2.2.2.1
theorem dX12_scan_107 : decode cX12_scan 107 = .ok (.goto 4, 3) := gd_X12_scan_91.2.2.2.2.2.2.2.2.1
theorem dX12_scan_110 : decode cX12_scan 110 = .ok (.iconst 1, 1) := gd_X12_scan_91.2.2.2.2.2.2.2.2.2
theorem gd_X12_scan_111 : decode cX12_scan 111 = .ok (.putfield 180, 3) ∧ decode cX12_scan 114 = .ok (.goto 76, 3) ∧ decode cX12_scan 117 = .ok (.iload_n 2, 1) ∧ decode cX12_scan 118 = .ok (.bipush 39, 2) ∧ decode cX12_scan 120 = .ok (.if_icmp .ne 55, 3) ∧ decode cX12_scan 123 = .ok (.aload_n 0, 1) ∧ decode cX12_scan 124 = .ok (.iload_n 3, 1) ∧ decode cX12_scan 125 = .ok (.invokevirtual 170, 3) ∧ decode cX12_scan 128 = .ok (.invokestatic 183, 3) ∧ decode cX12_scan 131 = .ok (.ifCond .eq 9, 3) := by decide +kernel
theorem dX12_scan_111 : decode cX12_scan 111 = .ok (.putfield 180, 3) := gd_X12_scan_111.1
theorem dX12_scan_114 : decode cX12_scan 114 = .ok (.goto 76, 3) := gd_X12_scan_111.2.1
theorem dX12_scan_117 : decode cX12_scan 117 = .ok (.iload_n 2, 1) := gd_X12_scan_111.2.2.1
theorem dX12_scan_118 : decode cX12_scan 118 = .ok (.bipush 39, 2) := gd_X12_scan_111.2.2.2.1
theorem dX12_scan_120 : decode cX12_scan 120 = .ok (.if_icmp .ne 55, 3) := gd_X12_scan_111.2.2.2.2.1
theorem dX12_scan_123 : decode cX12_scan 123 = .ok (.aload_n 0, 1) := gd_X12_scan_111.2.2.2.2.2.1
theorem dX12_scan_124 : decode cX12_scan 124 = .ok (.iload_n 3, 1) := gd_X12_scan_111.2.2.2.2.2.2.1
theorem dX12_scan_125 : decode cX12_scan 125 = .ok (.invokevirtual 170, 3) := gd_X12_scan_111.2.2.2.2.2.2.2.1
theorem dX12_scan_128 : decode cX12_scan 128 = .ok (.invokestatic 183, 3) := gd_X12_scan_111.2.2.2.2.2.2.2.2.1
theorem dX12_scan_131 : decode cX12_scan 131 = .ok (.ifCond .eq 9, 3) := gd_X12_scan_111.2.2.2.2.2.2.2.2.2
theorem gd_X12_scan_134 : decode cX12_scan 134 = .ok (.iinc 3 1, 3) ∧ decode cX12_scan 137 = .ok (.goto (-14), 3) ∧ decode cX12_scan 140 = .ok (.aload_n 0, 1) ∧ decode cX12_scan 141 = .ok (.aload_n 0, 1) ∧ decode cX12_scan 142 = .ok (.iload_n 3, 1) ∧ decode cX12_scan 143 = .ok (.invokevirtual 170, 3) ∧ decode cX12_scan 146 = .ok (.bipush 39, 2) ∧ decode cX12_scan 148 = .ok (.if_icmp .ne 17, 3) ∧ decode cX12_scan 151 = .ok (.iload_n 3, 1) ∧ decode cX12_scan 152 = .ok (.iload_n 1, 1) := by decide +kernel
theorem dX12_scan_134 : decode cX12_scan 134 = .ok (.iinc 3 1, 3) := gd_X12_scan_134.1
theorem dX12_scan_137 : decode cX12_scan 137 = .ok (.goto (-14), 3) := gd_X12_scan_134.2.1
theorem dX12_scan_140 : decode cX12_scan 140 = .ok (.aload_n 0, 1) := gd_X12_scan_134.2.2.1
theorem dX12_scan_141 : decode cX12_scan 141 = .ok (.aload_n 0, 1) := gd_X12_scan_134.2.2.2.1
theorem dX12_scan_142 : decode cX12_scan 142 = .ok (.iload_n 3, 1) := gd_X12_scan_134.2.2.2.2.1
theorem dX12_scan_143 : decode cX12_scan 143 = .ok (.invokevirtual 170, 3) := gd_X12_scan_134.2.2.2.2.2.1
theorem dX12_scan_146 : decode cX12_scan 146 = .ok (.bipush 39, 2) := gd_X12_scan_134.2.2.2.2.2.2.1
theorem dX12_scan_148 : decode cX12_scan 148 = .ok (.if_icmp .ne 17, 3) := gd_X12_scan_134.2.2.2.2.2.2.2.1
theorem dX12_scan_151 : decode cX12_scan 151 = .ok (.iload_n 3, 1) := gd_X12_scan_134.2.2.2.2.2.2.2.2.1
theorem dX12_scan_152 : decode cX12_scan 152 = .ok (.iload_n 1, 1) := gd_X12_scan_134.2.2.2.2.2.2.2.2.2
theorem gd_X12_scan_153 : decode cX12_scan 153 = .ok (.isub, 1) ∧ decode cX12_scan 154 = .ok (.iconst 1, 1) ∧ decode cX12_scan 155 = .ok (.isub, 1) ∧ decode cX12_scan 156 = .ok (.bipush 16, 2) ∧ decode cX12_scan 158 = .ok (.if_icmp .gt 7, 3) ∧ decode cX12_scan 161 = .ok (.iconst 2, 1) ∧ decode cX12_scan 162 = .ok (.goto 4, 3) ∧ decode cX12_scan 165 = .ok (.iconst 0, 1) ∧ decode cX12_scan 166 = .ok (.putfield 180, 3) ∧ decode cX12_scan 169 = .ok (.iinc 3 1, 3) := by decide +kernel
theorem dX12_scan_153 : decode cX12_scan 153 = .ok (.isub, 1) := gd_X12_scan_153.1
theorem dX12_scan_154 : decode cX12_scan 154 = .ok (.iconst 1, 1) := gd_X12_scan_153.2.1
theorem dX12_scan_155 : decode cX12_scan 155 = .ok (.isub, 1) := gd_X12_scan_153.2.2.1
theorem dX12_scan_156 : decode cX12_scan 156 = .ok (.bipush 16, 2) := gd_X12_scan_153.2.2.2.1
theorem dX12_scan_158 : decode cX12_scan 158 = .ok (.if_icmp .gt 7, 3) := gd_X12_scan_153.2.2.2.2.1
theorem dX12_scan_161 : decode cX12_scan 161 = .ok (.iconst 2, 1) := gd_X12_scan_153.2.2.2.2.2.1
theorem dX12_scan_162 : decode cX12_scan 162 = .ok (.goto 4, 3) := gd_X12_scan_153.2.2.2.2.2.2.1
theorem dX12_scan_165 : decode cX12_scan 165 = .ok (.iconst 0, 1) := gd_X12_scan_153.2.2.2.2.2.2.2.1
theorem dX12_scan_166 : decode cX12_scan 166 = .ok (.putfield 180, 3) := gd_X12_scan_153.2.2.2.2.2.2.2.2.1
theorem dX12_scan_169 : decode cX12_scan 169 = .ok (.iinc 3 1, 3) := gd_X12_scan_153.2.2.2.2.2.2.2.2.2
theorem gd_X12_scan_172 : decode cX12_scan 172 = .ok (.goto 18, 3) ∧ decode cX12_scan 175 = .ok (.aload_n 0, 1) ∧ decode cX12_scan 176 = .ok (.iload_n 2, 1) ∧ decode cX12_scan 177 = .ok (.bipush 59, 2) ∧ decode cX12_scan 179 = .ok (.if_icmp .ne 7, 3) ∧ decode cX12_scan 182 = .ok (.iconst 3, 1) ∧ decode cX12_scan 183 = .ok (.goto 4, 3) ∧ decode cX12_scan 186 = .ok (.iconst 0, 1) ∧ decode cX12_scan 187 = .ok (.putfield 180, 3) ∧ decode cX12_readListed 0 = .ok (.aload_n 0, 1) := by decide +kernel
theorem dX12_scan_172 : decode cX12_scan 172 = .ok (.goto 18, 3) := gd_X12_scan_172.1
theorem dX12_scan_175 : decode cX12_scan 175 = .ok (.aload_n 0, 1) := gd_X12_scan_172.2.1
theorem dX12_scan_176 : decode cX12_scan 176 = .ok (.iload_n 2, 1) := gd_X12_scan_172.2.2.1
theorem dX12_scan_177 : decode cX12_scan 177 = .ok (.bipush 59, 2) := gd_X12_scan_172.2.2.2.1
theorem dX12_scan_179 : decode cX12_scan 179 = .ok (.if_icmp .ne 7, 3) := gd_X12_scan_172.2.2.2.2.1
theorem dX12_scan_182 : decode cX12_scan 182 = .ok (.iconst 3, 1) := gd_X12_scan_172.2.2.2.2.2.1
theorem dX12_scan_183 : decode cX12_scan 183 = .ok (.goto 4, 3) := gd_X12_scan_172.2.2.2.2.2.2.1
theorem dX12_scan_186 : decode cX12_scan 186 = .ok (.iconst 0, 1) := gd_X12_scan_172.2.2.2.2.2.2.2.1
theorem dX12_scan_187 : decode cX12_scan 187 = .ok (.putfield 180, 3) := gd_X12_scan_172.2.2.2.2.2.2.2.2.1
theorem dX12_readListed_0 : decode cX12_readListed 0 = .ok (.aload_n 0, 1) := gd_X12_scan_172.2.2.2.2.2.2.2.2.2
theorem gd_X12_readListed_1 : decode cX12_readListed 1 = .ok (.getfield 27, 3) ∧ decode cX12_readListed 4 = .ok (.bipush 6, 2) ∧ decode cX12_readListed 6 = .ok (.iaload, 1) ∧ decode cX12_readListed 7 = .ok (.bipush 40, 2) ∧ decode cX12_readListed 9 = .ok (.if_icmp .ne 9, 3) ∧ decode cX12_readListed 12 = .ok (.aload_n 0, 1) ∧ decode cX12_readListed 13 = .ok (.iconst 4, 1) ∧ decode cX12_readListed 14 = .ok (.invokevirtual 197, 3) ∧ decode cX12_readListed 17 = .ok (.ireturn, 1) ∧ decode cX12_readListed 18 = .ok (.aload_n 0, 1) := by decide +kernel
theorem dX12_readListed_1 : decode cX12_readListed 1 = .ok (.getfield 27, 3) := gd_X12_readListed_1.1
theorem dX12_readListed_4 : decode cX12_readListed 4 = .ok (.bipush 6, 2) := gd_X12_readListed_1.2.1
theorem dX12_readListed_6 : decode cX12_readListed 6 = .ok (.iaload, 1) := gd_X12_readListed_1.2.2.1
theorem dX12_readListed_7 : decode cX12_readListed 7 = .ok (.bipush 40, 2) := gd_X12_readListed_1.2.2.2.1
theorem dX12_readListed_9 : decode cX12_readListed 9 = .ok (.if_icmp .ne 9, 3) := gd_X12_readListed_1.2.2.2.2.1
theorem dX12_readListed_12 : decode cX12_readListed 12 = .ok (.aload_n 0, 1) := gd_X12_readListed_1.2.2.2.2.2.1
theorem dX12_readListed_13 : decode cX12_readListed 13 = .ok (.iconst 4, 1) := gd_X12_readListed_1.2.2.2.2.2.2.1
theorem dX12_readListed_14 : decode cX12_readListed 14 = .ok (.invokevirtual 197, 3) := gd_X12_readListed_1.2.2.2.2.2.2.2.1
theorem dX12_readListed_17 : decode cX12_readListed 17 = .ok (.ireturn, 1) := gd_X12_readListed_1.2.2.2.2.2.2.2.2.1
theorem dX12_readListed_18 : decode cX12_readListed 18 = .ok (.aload_n 0, 1) := gd_X12_readListed_1.2.2.2.2.2.2.2.2.2
theorem gd_X12_readListed_19 : decode cX12_readListed 19 = .ok (.invokevirtual 200, 3) ∧ decode cX12_readListed 22 = .ok (.iconst 2, 1) ∧ decode cX12_readListed 23 = .ok (.sipush 240, 3) ∧ decode cX12_readListed 26 = .ok (.aload_n 0, 1) ∧ decode cX12_readListed 27 = .ok (.getfield 27, 3) ∧ decode cX12_readListed 30 = .ok (.bipush 6, 2) ∧ decode cX12_readListed 32 = .ok (.iaload, 1) ∧ decode cX12_readListed 33 = .ok (.iadd, 1) ∧ decode cX12_readListed 34 = .ok (.imul, 1) ∧ decode cX12_readListed 35 = .ok (.istore_n 2, 1) := by decide +kernel
theorem dX12_readListed_19 : decode cX12_readListed 19 = .ok (.invokevirtual 200, 3) := gd_X12_readListed_19.1
theorem dX12_readListed_22 : decode cX12_readListed 22 = .ok (.iconst 2, 1) := gd_X12_readListed_19.2.1
theorem dX12_readListed_23 : decode cX12_readListed 23 = .ok (.sipush 240, 3) := gd_X12_readListed_19.2.2.1
theorem dX12_readListed_26 : decode cX12_readListed 26 = .ok (.aload_n 0, 1) := gd_X12_readListed_19.2.2.2.1
theorem dX12_readListed_27 : decode cX12_readListed 27 = .ok (.getfield 27, 3) := gd_X12_readListed_19.2.2.2.2.1
theorem dX12_readListed_30 : decode cX12_readListed 30 = .ok (.bipush 6, 2) := gd_X12_readListed_19.2.2.2.2.2.1
theorem dX12_readListed_32 : decode cX12_readListed 32 = .ok (.iaload, 1) := gd_X12_readListed_19.2.2.2.2.2.2.1
theorem dX12_readListed_33 : decode cX12_readListed 33 = .ok (.iadd, 1) := gd_X12_readListed_19.2.2.2.2.2.2.2.1
theorem dX12_readListed_34 : decode cX12_readListed 34 = .ok (.imul, 1) := gd_X12_readListed_19.2.2.2.2.2.2.2.2.1
theorem dX12_readListed_35 : decode cX12_readListed 35 = .ok (.istore_n 2, 1) := gd_X12_readListed_19.2.2.2.2.2.2.2.2.2
theorem gd_X12_readListed_36 : decode cX12_readListed 36 = .ok (.aload_n 0, 1) ∧ decode cX12_readListed 37 = .ok (.aload_n 0, 1) ∧ decode cX12_readListed 38 = .ok (.getfield 49, 3) ∧ decode cX12_readListed 41 = .ok (.aload_n 0, 1) ∧ decode cX12_readListed 42 = .ok (.getfield 52, 3) ∧ decode cX12_readListed 45 = .ok (.iload_n 2, 1) ∧ decode cX12_readListed 46 = .ok (.iconst 1, 1) ∧ decode cX12_readListed 47 = .ok (.invokevirtual 203, 3) ∧ decode cX12_readListed 50 = .ok (.ifCond .ne 5, 3) ∧ decode cX12_readListed 53 = .ok (.iconst 0, 1) := by decide +kernel
theorem dX12_readListed_36 : decode cX12_readListed 36 = .ok (.aload_n 0, 1) := gd_X12_readListed_36.1
theorem dX12_readListed_37 : decode cX12_readListed 37 = .ok (.aload_n 0, 1) := gd_X12_readListed_36.2.1
theorem dX12_readListed_38 : decode cX12_readListed 38 = .ok (.getfield 49, 3) := gd_X12_readListed_36.2.2.1
theorem dX12_readListed_41 : decode cX12_readListed 41 = .ok (.aload_n 0, 1) := gd_X12_readListed_36.2.2.2.1
theorem dX12_readListed_42 : decode cX12_readListed 42 = .ok (.getfield 52, 3) := gd_X12_readListed_36.2.2.2.2.1
theorem dX12_readListed_45 : decode cX12_readListed 45 = .ok (.iload_n 2, 1) := gd_X12_readListed_36.2.2.2.2.2.1
theorem dX12_readListed_46 : decode cX12_readListed 46 = .ok (.iconst 1, 1) := gd_X12_readListed_36.2.2.2.2.2.2.1
theorem dX12_readListed_47 : decode cX12_readListed 47 = .ok (.invokevirtual 203, 3) := gd_X12_readListed_36.2.2.2.2.2.2.2.1
theorem dX12_readListed_50 : decode cX12_readListed 50 = .ok (.ifCond .ne 5, 3) := gd_X12_readListed_36.2.2.2.2.2.2.2.2.1
theorem dX12_readListed_53 : decode cX12_readListed 53 = .ok (.iconst 0, 1) := gd_X12_readListed_36.2.2.2.2.2.2.2.2.2
theorem gd_X12_readListed_54 : decode cX12_readListed 54 = .ok (.ireturn, 1) ∧ decode cX12_readListed 55 = .ok (.sipush 480, 3) ∧ decode cX12_readListed 58 = .ok (.istore_n 3, 1) ∧ decode cX12_readListed 59 = .ok (.iload_n 3, 1) ∧ decode cX12_readListed 60 = .ok (.iload_n 2, 1) ∧ decode cX12_readListed 61 = .ok (.if_icmp .ge 31, 3) ∧ decode cX12_readListed 64 = .ok (.aload_n 0, 1) ∧ decode cX12_readListed 65 = .ok (.getfield 49, 3) ∧ decode cX12_readListed 68 = .ok (.aload_n 0, 1) ∧ decode cX12_readListed 69 = .ok (.getfield 52, 3) := by decide +kernel
theorem dX12_readListed_54 : decode cX12_readListed 54 = .ok (.ireturn, 1) := gd_X12_readListed_54.1
theorem dX12_readListed_55 : decode cX12_readListed 55 = .ok (.sipush 480, 3) := gd_X12_readListed_54.2.1
theorem dX12_readListed_58 : decode cX12_readListed 58 = .ok (.istore_n 3, 1) := gd_X12_readListed_54.2.2.1
theorem dX12_readListed_59 : decode cX12_readListed 59 = .ok (.iload_n 3, 1) := gd_X12_readListed_54.2.2.2.1
theorem dX12_readListed_60 : decode cX12_readListed 60 = .ok (.iload_n 2, 1) := gd_X12_readListed_54.2.2.2.2.1
theorem dX12_readListed_61 : decode cX12_readListed 61 = .ok (.if_icmp .ge 31, 3) := gd_X12_readListed_54.2.2.2.2.2.1
theorem dX12_readListed_64 : decode cX12_readListed 64 = .ok (.aload_n 0, 1) := gd_X12_readListed_54.2.2.2.2.2.2.1
theorem dX12_readListed_65 : decode cX12_readListed 65 = .ok (.getfield 49, 3) := gd_X12_readListed_54.2.2.2.2.2.2.2.1
theorem dX12_readListed_68 : decode cX12_readListed 68 = .ok (.aload_n 0, 1) := gd_X12_readListed_54.2.2.2.2.2.2.2.2.1
theorem dX12_readListed_69 : decode cX12_readListed 69 = .ok (.getfield 52, 3) := gd_X12_readListed_54.2.2.2.2.2.2.2.2.2
theorem gd_X12_readListed_72 : decode cX12_readListed 72 = .ok (.iload_n 3, 1) ∧ decode cX12_readListed 73 = .ok (.iload_n 2, 1) ∧ decode cX12_readListed 74 = .ok (.invokestatic 207, 3) ∧ decode cX12_readListed 77 = .ok (.ifCond .eq 9, 3) ∧ decode cX12_readListed 80 = .ok (.aload_n 0, 1) ∧ decode cX12_readListed 81 = .ok (.iconst 3, 1) ∧ decode cX12_readListed 82 = .ok (.invokevirtual 197, 3) ∧ decode cX12_readListed 85 = .ok (.ireturn, 1) ∧ decode cX12_readListed 86 = .ok (.iinc 3 2, 3) ∧ decode cX12_readListed 89 = .ok (.goto (-30), 3) := by decide +kernel
theorem dX12_readListed_72 : decode cX12_readListed 72 = .ok (.iload_n 3, 1) := gd_X12_readListed_72.1
theorem dX12_readListed_73 : decode cX12_readListed 73 = .ok (.iload_n 2, 1) := gd_X12_readListed_72.2.1
theorem dX12_readListed_74 : decode cX12_readListed 74 = .ok (.invokestatic 207, 3) := gd_X12_readListed_72.2.2.1
theorem dX12_readListed_77 : decode cX12_readListed 77 = .ok (.ifCond .eq 9, 3) := gd_X12_readListed_72.2.2.2.1
theorem dX12_readListed_80 : decode cX12_readListed 80 = .ok (.aload_n 0, 1) := gd_X12_readListed_72.2.2.2.2.1
theorem dX12_readListed_81 : decode cX12_readListed 81 = .ok (.iconst 3, 1) := gd_X12_readListed_72.2.2.2.2.2.1
theorem dX12_readListed_82 : decode cX12_readListed 82 = .ok (.invokevirtual 197, 3) := gd_X12_readListed_72.2.2.2.2.2.2.1
theorem dX12_readListed_85 : decode cX12_readListed 85 = .ok (.ireturn, 1) := gd_X12_readListed_72.2.2.2.2.2.2.2.1
theorem dX12_readListed_86 : decode cX12_readListed 86 = .ok (.iinc 3 2, 3) := gd_X12_readListed_72.2.2.2.2.2.2.2.2.1
theorem dX12_readListed_89 : decode cX12_readListed 89 = .ok (.goto (-30), 3) := gd_X12_readListed_72.2.2.2.2.2.2.2.2.2
theorem gd_X12_readListed_92 : decode cX12_readListed 92 = .ok (.aload_n 0, 1) ∧ decode cX12_readListed 93 = .ok (.getfield 52, 3) ∧ decode cX12_readListed 96 = .ok (.iload_n 2, 1) ∧ decode cX12_readListed 97 = .ok (.iconst 1, 1) ∧ decode cX12_readListed 98 = .ok (.iadd, 1) ∧ decode cX12_readListed 99 = .ok (.iconst (-1), 1) ∧ decode cX12_readListed 100 = .ok (.iastore, 1) ∧ decode cX12_readListed 101 = .ok (.aload_n 0, 1) ∧ decode cX12_readListed 102 = .ok (.invokevirtual 200, 3) ∧ decode cX12_readListed 105 = .ok (.iload_n 1, 1) := by decide +kernel
theorem dX12_readListed_92 : decode cX12_readListed 92 = .ok (.aload_n 0, 1) := gd_X12_readListed_92.1
theorem dX12_readListed_93 : decode cX12_readListed 93 = .ok (.getfield 52, 3) := gd_X12_readListed_92.2.1
theorem dX12_readListed_96 : decode cX12_readListed 96 = .ok (.iload_n 2, 1) := gd_X12_readListed_92.2.2.1
theorem dX12_readListed_97 : decode cX12_readListed 97 = .ok (.iconst 1, 1) := gd_X12_readListed_92.2.2.2.1
theorem dX12_readListed_98 : decode cX12_readListed 98 = .ok (.iadd, 1) := gd_X12_readListed_92.2.2.2.2.1
theorem dX12_readListed_99 : decode cX12_readListed 99 = .ok (.iconst (-1), 1) := gd_X12_readListed_92.2.2.2.2.2.1
theorem dX12_readListed_100 : decode cX12_readListed 100 = .ok (.iastore, 1) := gd_X12_readListed_92.2.2.2.2.2.2.1
theorem dX12_readListed_101 : decode cX12_readListed 101 = .ok (.aload_n 0, 1) := gd_X12_readListed_92.2.2.2.2.2.2.2.1
theorem dX12_readListed_102 : decode cX12_readListed 102 = .ok (.invokevirtual 200, 3) := gd_X12_readListed_92.2.2.2.2.2.2.2.2.1
theorem dX12_readListed_105 : decode cX12_readListed 105 = .ok (.iload_n 1, 1) := gd_X12_readListed_92.2.2.2.2.2.2.2.2.2
theorem gd_X12_readListed_106 : decode cX12_readListed 106 = .ok (.ifCond .eq 54, 3) ∧ decode cX12_readListed 109 = .ok (.aload_n 0, 1) ∧ decode cX12_readListed 110 = .ok (.getfield 180, 3) ∧ decode cX12_readListed 113 = .ok (.iconst 1, 1) ∧ decode cX12_readListed 114 = .ok (.if_icmp .ne 11, 3) ∧ decode cX12_readListed 117 = .ok (.aload_n 0, 1) ∧ decode cX12_readListed 118 = .ok (.getfield 191, 3) ∧ decode cX12_readListed 121 = .ok (.iconst 2, 1) ∧ decode cX12_readListed 122 = .ok (.if_icmp .eq 9, 3) ∧ decode cX12_readListed 125 = .ok (.aload_n 0, 1) := by decide +kernel
theorem dX12_readListed_106 : decode cX12_readListed 106 = .ok (.ifCond .eq 54, 3) := gd_X12_readListed_106.1
theorem dX12_readListed_109 : decode cX12_readListed 109 = .ok (.aload_n 0, 1) := gd_X12_readListed_106.2.1
theorem dX12_readListed_110 : decode cX12_readListed 110 = .ok (.getfield 180, 3) := gd_X12_readListed_106.2.2.1
theorem dX12_readListed_113 : decode cX12_readListed 113 = .ok (.iconst 1, 1) := gd_X12_readListed_106.2.2.2.1
theorem dX12_readListed_114 : decode cX12_readListed 114 = .ok (.if_icmp .ne 11, 3) := gd_X12_readListed_106.2.2.2.2.1
theorem dX12_readListed_117 : decode cX12_readListed 117 = .ok (.aload_n 0, 1) := gd_X12_readListed_106.2.2.2.2.2.1
theorem dX12_readListed_118 : decode cX12_readListed 118 = .ok (.getfield 191, 3) := gd_X12_readListed_106.2.2.2.2.2.2.1
theorem dX12_readListed_121 : decode cX12_readListed 121 = .ok (.iconst 2, 1) := gd_X12_readListed_106.2.2.2.2.2.2.2.1
theorem dX12_readListed_122 : decode cX12_readListed 122 = .ok (.if_icmp .eq 9, 3) := gd_X12_readListed_106.2.2.2.2.2.2.2.2.1
theorem dX12_readListed_125 : decode cX12_readListed 125 = .ok (.aload_n 0, 1) := gd_X12_readListed_106.2.2.2.2.2.2.2.2.2
theorem gd_X12_readListed_126 : decode cX12_readListed 126 = .ok (.iconst 1, 1) ∧ decode cX12_readListed 127 = .ok (.invokevirtual 197, 3) ∧ decode cX12_readListed 130 = .ok (.ireturn, 1) ∧ decode cX12_readListed 131 = .ok (.aload_n 0, 1) ∧ decode cX12_readListed 132 = .ok (.invokevirtual 200, 3) ∧ decode cX12_readListed 135 = .ok (.aload_n 0, 1) ∧ decode cX12_readListed 136 = .ok (.aload_n 0, 1) ∧ decode cX12_readListed 137 = .ok (.getfield 49, 3) ∧ decode cX12_readListed 140 = .ok (.aload_n 0, 1) ∧ decode cX12_readListed 141 = .ok (.getfield 52, 3) := by decide +kernel
theorem dX12_readListed_126 : decode cX12_readListed 126 = .ok (.iconst 1, 1) := gd_X12_readListed_126.1
theorem dX12_readListed_127 : decode cX12_readListed 127 = .ok (.invokevirtual 197, 3) := gd_X12_readListed_126.2.1
theorem dX12_readListed_130 : decode cX12_readListed 130 = .ok (.ireturn, 1) := gd_X12_readListed_126.2.2.1
theorem dX12_readListed_131 : decode cX12_readListed 131 = .ok (.aload_n 0, 1) := gd_X12_readListed_126.2.2.2.1
theorem dX12_readListed_132 : decode cX12_readListed 132 = .ok (.invokevirtual 200, 3) := gd_X12_readListed_126.2.2.2.2.1
theorem dX12_readListed_135 : decode cX12_readListed 135 = .ok (.aload_n 0, 1) := gd_X12_readListed_126.2.2.2.2.2.1
theorem dX12_readListed_136 : decode cX12_readListed 136 = .ok (.aload_n 0, 1) := gd_X12_readListed_126.2.2.2.2.2.2.1
theorem dX12_readListed_137 : decode cX12_readListed 137 = .ok (.getfield 49, 3) := gd_X12_readListed_126.2.2.2.2.2.2.2.1
theorem dX12_readListed_140 : decode cX12_readListed 140 = .ok (.aload_n 0, 1) := gd_X12_readListed_126.2.2.2.2.2.2.2.2.1
theorem dX12_readListed_141 : decode cX12_readListed 141 = .ok (.getfield 52, 3) := gd_X12_readListed_126.2.2.2.2.2.2.2.2.2
theorem gd_X12_readListed_144 : decode cX12_readListed 144 = .ok (.iload_n 2, 1) ∧ decode cX12_readListed 145 = .ok (.iconst 1, 1) ∧ decode cX12_readListed 146 = .ok (.iadd, 1) ∧ decode cX12_readListed 147 = .ok (.iconst 0, 1) ∧ decode cX12_readListed 148 = .ok (.invokevirtual 203, 3) ∧ decode cX12_readListed 151 = .ok (.ifCond .ne 5, 3) ∧ decode cX12_readListed 154 = .ok (.iconst 0, 1) ∧ decode cX12_readListed 155 = .ok (.ireturn, 1) ∧ decode cX12_readListed 156 = .ok (.aload_n 0, 1) ∧ decode cX12_readListed 157 = .ok (.invokevirtual 200, 3) := by decide +kernel
theorem dX12_readListed_144 : decode cX12_readListed 144 = .ok (.iload_n 2, 1) := gd_X12_readListed_144.1
theorem dX12_readListed_145 : decode cX12_readListed 145 = .ok (.iconst 1, 1) := gd_X12_readListed_144.2.1
theorem dX12_readListed_146 : decode cX12_readListed 146 = .ok (.iadd, 1) := gd_X12_readListed_144.2.2.1
theorem dX12_readListed_147 : decode cX12_readListed 147 = .ok (.iconst 0, 1) := gd_X12_readListed_144.2.2.2.1
theorem dX12_readListed_148 : decode cX12_readListed 148 = .ok (.invokevirtual 203, 3) := gd_X12_readListed_144.2.2.2.2.1
theorem dX12_readListed_151 : decode cX12_readListed 151 = .ok (.ifCond .ne 5, 3) := gd_X12_readListed_144.2.2.2.2.2.1
theorem dX12_readListed_154 : decode cX12_readListed 154 = .ok (.iconst 0, 1) := gd_X12_readListed_144.2.2.2.2.2.2.1
theorem dX12_readListed_155 : decode cX12_readListed 155 = .ok (.ireturn, 1) := gd_X12_readListed_144.2.2.2.2.2.2.2.1
theorem dX12_readListed_156 : decode cX12_readListed 156 = .ok (.aload_n 0, 1) := gd_X12_readListed_144.2.2.2.2.2.2.2.2.1
theorem dX12_readListed_157 : decode cX12_readListed 157 = .ok (.invokevirtual 200, 3) := gd_X12_readListed_144.2.2.2.2.2.2.2.2.2
theorem gd_X12_readListed_160 : decode cX12_readListed 160 = .ok (.aload_n 0, 1) ∧ decode cX12_readListed 161 = .ok (.getfield 27, 3) ∧ decode cX12_readListed 164 = .ok (.bipush 6, 2) ∧ decode cX12_readListed 166 = .ok (.dup2, 1) ∧ decode cX12_readListed 167 = .ok (.iaload, 1) ∧ decode cX12_readListed 168 = .ok (.iconst 1, 1) ∧ decode cX12_readListed 169 = .ok (.iadd, 1) ∧ decode cX12_readListed 170 = .ok (.iastore, 1) ∧ decode cX12_readListed 171 = .ok (.iconst 1, 1) ∧ decode cX12_readListed 172 = .ok (.ireturn, 1) := by decide +kernel
theorem dX12_readListed_160 : decode cX12_readListed 160 = .ok (.aload_n 0, 1) := gd_X12_readListed_160.1
theorem dX12_readListed_161 : decode cX12_readListed 161 = .ok (.getfield 27, 3) := gd_X12_readListed_160.2.1
theorem dX12_readListed_164 : decode cX12_readListed 164 = .ok (.bipush 6, 2) := gd_X12_readListed_160.2.2.1
theorem dX12_readListed_166 : decode cX12_readListed 166 = .ok (.dup2, 1) := gd_X12_readListed_160.2.2.2.1
theorem dX12_readListed_167 : decode cX12_readListed 167 = .ok (.iaload, 1) := gd_X12_readListed_160.2.2.2.2.1
theorem dX12_readListed_168 : decode cX12_readListed 168 = .ok (.iconst 1, 1) := gd_X12_readListed_160.2.2.2.2.2.1
theorem dX12_readListed_169 : decode cX12_readListed 169 = .ok (.iadd, 1) := gd_X12_readListed_160.2.2.2.2.2.2.1
theorem dX12_readListed_170 : decode cX12_readListed 170 = .ok (.iastore, 1) := gd_X12_readListed_160.2.2.2.2.2.2.2.1
theorem dX12_readListed_171 : decode cX12_readListed 171 = .ok (.iconst 1, 1) := gd_X12_readListed_160.2.2.2.2.2.2.2.2.1
theorem dX12_readListed_172 : decode cX12_readListed 172 = .ok (.ireturn, 1) := gd_X12_readListed_160.2.2.2.2.2.2.2.2.2
theorem gd_X12_readPart_0 : decode cX12_readPart 0 = .ok (.aload_n 0, 1) ∧ decode cX12_readPart 1 = .ok (.getfield 24, 3) ∧ decode cX12_readPart 4 = .ok (.bipush 6, 2) ∧ decode cX12_readPart 6 = .ok (.iaload, 1) ∧ decode cX12_readPart 7 = .ok (.bipush 40, 2) ∧ decode cX12_readPart 9 = .ok (.if_icmp .ne 9, 3) ∧ decode cX12_readPart 12 = .ok (.aload_n 0, 1) ∧ decode cX12_readPart 13 = .ok (.iconst 4, 1) ∧ decode cX12_readPart 14 = .ok (.invokevirtual 197, 3) ∧ decode cX12_readPart 17 = .ok (.ireturn, 1) := by decide +kernel
theorem dX12_readPart_0 : decode cX12_readPart 0 = .ok (.aload_n 0, 1) := gd_X12_readPart_0.1
theorem dX12_readPart_1 : decode cX12_readPart 1 = .ok (.getfield 24, 3) := gd_X12_readPart_0.2.1
theorem dX12_readPart_4 : decode cX12_readPart 4 = .ok (.bipush 6, 2) := gd_X12_readPart_0.2.2.1
theorem dX12_readPart_6 : decode cX12_readPart 6 = .ok (.iaload, 1) := gd_X12_readPart_0.2.2.2.1
theorem dX12_readPart_7 : decode cX12_readPart 7 = .ok (.bipush 40, 2) := gd_X12_readPart_0.2.2.2.2.1
theorem dX12_readPart_9 : decode cX12_readPart 9 = .ok (.if_icmp .ne 9, 3) := gd_X12_readPart_0.2.2.2.2.2.1
theorem dX12_readPart_12 : decode cX12_readPart 12 = .ok (.aload_n 0, 1) := gd_X12_readPart_0.2.2.2.2.2.2.1
theorem dX12_readPart_13 : decode cX12_readPart 13 = .ok (.iconst 4, 1) := gd_X12_readPart_0.2.2.2.2.2.2.2.1
theorem dX12_readPart_14 : decode cX12_readPart 14 = .ok (.invokevirtual 197, 3) := gd_X12_readPart_0.2.2.2.2.2.2.2.2.1
theorem dX12_readPart_17 : decode cX12_readPart 17 = .ok (.ireturn, 1) := gd_X12_readPart_0.2.2.2.2.2.2.2.2.2
theorem gd_X12_readPart_18 : decode cX12_readPart 18 = .ok (.aload_n 0, 1) ∧ decode cX12_readPart 19 = .ok (.invokevirtual 200, 3) ∧ decode cX12_readPart 22 = .ok (.sipush 240, 3) ∧ decode cX12_readPart 25 = .ok (.aload_n 0, 1) ∧ decode cX12_readPart 26 = .ok (.getfield 24, 3) ∧ decode cX12_readPart 29 = .ok (.bipush 6, 2) ∧ decode cX12_readPart 31 = .ok (.iaload, 1) ∧ decode cX12_readPart 32 = .ok (.iadd, 1) ∧ decode cX12_readPart 33 = .ok (.istore_n 1, 1) ∧ decode cX12_readPart 34 = .ok (.aload_n 0, 1) := by decide +kernel
theorem dX12_readPart_18 : decode cX12_readPart 18 = .ok (.aload_n 0, 1) := gd_X12_readPart_18.1
theorem dX12_readPart_19 : decode cX12_readPart 19 = .ok (.invokevirtual 200, 3) := gd_X12_readPart_18.2.1
theorem dX12_readPart_22 : decode cX12_readPart 22 = .ok (.sipush 240, 3) := gd_X12_readPart_18.2.2.1
theorem dX12_readPart_25 : decode cX12_readPart 25 = .ok (.aload_n 0, 1) := gd_X12_readPart_18.2.2.2.1
theorem dX12_readPart_26 : decode cX12_readPart 26 = .ok (.getfield 24, 3) := gd_X12_readPart_18.2.2.2.2.1
theorem dX12_readPart_29 : decode cX12_readPart 29 = .ok (.bipush 6, 2) := gd_X12_readPart_18.2.2.2.2.2.1
theorem dX12_readPart_31 : decode cX12_readPart 31 = .ok (.iaload, 1) := gd_X12_readPart_18.2.2.2.2.2.2.1
theorem dX12_readPart_32 : decode cX12_readPart 32 = .ok (.iadd, 1) := gd_X12_readPart_18.2.2.2.2.2.2.2.1
theorem dX12_readPart_33 : decode cX12_readPart 33 = .ok (.istore_n 1, 1) := gd_X12_readPart_18.2.2.2.2.2.2.2.2.1
theorem dX12_readPart_34 : decode cX12_readPart 34 = .ok (.aload_n 0, 1) := gd_X12_readPart_18.2.2.2.2.2.2.2.2.2
theorem gd_X12_readPart_35 : decode cX12_readPart 35 = .ok (.aload_n 0, 1) ∧ decode cX12_readPart 36 = .ok (.getfield 43, 3) ∧ decode cX12_readPart 39 = .ok (.aload_n 0, 1) ∧ decode cX12_readPart 40 = .ok (.getfield 46, 3) ∧ decode cX12_readPart 43 = .ok (.iload_n 1, 1) ∧ decode cX12_readPart 44 = .ok (.iconst 1, 1) ∧ decode cX12_readPart 45 = .ok (.invokevirtual 203, 3) ∧ decode cX12_readPart 48 = .ok (.ifCond .ne 5, 3) ∧ decode cX12_readPart 51 = .ok (.iconst 0, 1) ∧ decode cX12_readPart 52 = .ok (.ireturn, 1) := by decide +kernel
theorem dX12_readPart_35 : decode cX12_readPart 35 = .ok (.aload_n 0, 1) := gd_X12_readPart_35.1
theorem dX12_readPart_36 : decode cX12_readPart 36 = .ok (.getfield 43, 3) := gd_X12_readPart_35.2.1
theorem dX12_readPart_39 : decode cX12_readPart 39 = .ok (.aload_n 0, 1) := gd_X12_readPart_35.2.2.1
theorem dX12_readPart_40 : decode cX12_readPart 40 = .ok (.getfield 46, 3) := gd_X12_readPart_35.2.2.2.1
theorem dX12_readPart_43 : decode cX12_readPart 43 = .ok (.iload_n 1, 1) := gd_X12_readPart_35.2.2.2.2.1
theorem dX12_readPart_44 : decode cX12_readPart 44 = .ok (.iconst 1, 1) := gd_X12_readPart_35.2.2.2.2.2.1
theorem dX12_readPart_45 : decode cX12_readPart 45 = .ok (.invokevirtual 203, 3) := gd_X12_readPart_35.2.2.2.2.2.2.1
theorem dX12_readPart_48 : decode cX12_readPart 48 = .ok (.ifCond .ne 5, 3) := gd_X12_readPart_35.2.2.2.2.2.2.2.1
theorem dX12_readPart_51 : decode cX12_readPart 51 = .ok (.iconst 0, 1) := gd_X12_readPart_35.2.2.2.2.2.2.2.2.1
theorem dX12_readPart_52 : decode cX12_readPart 52 = .ok (.ireturn, 1) := gd_X12_readPart_35.2.2.2.2.2.2.2.2.2
theorem gd_X12_readPart_53 : decode cX12_readPart 53 = .ok (.sipush 240, 3) ∧ decode cX12_readPart 56 = .ok (.istore_n 2, 1) ∧ decode cX12_readPart 57 = .ok (.iload_n 2, 1) ∧ decode cX12_readPart 58 = .ok (.iload_n 1, 1) ∧ decode cX12_readPart 59 = .ok (.if_icmp .ge 31, 3) ∧ decode cX12_readPart 62 = .ok (.aload_n 0, 1) ∧ decode cX12_readPart 63 = .ok (.getfield 43, 3) ∧ decode cX12_readPart 66 = .ok (.aload_n 0, 1) ∧ decode cX12_readPart 67 = .ok (.getfield 46, 3) ∧ decode cX12_readPart 70 = .ok (.iload_n 2, 1) := by decide +kernel
theorem dX12_readPart_53 : decode cX12_readPart 53 = .ok (.sipush 240, 3) := gd_X12_readPart_53.1
theorem dX12_readPart_56 : decode cX12_readPart 56 = .ok (.istore_n 2, 1) := gd_X12_readPart_53.2.1
theorem dX12_readPart_57 : decode cX12_readPart 57 = .ok (.iload_n 2, 1) := gd_X12_readPart_53.2.2.1
theorem dX12_readPart_58 : decode cX12_readPart 58 = .ok (.iload_n 1, 1) := gd_X12_readPart_53.2.2.2.1
theorem dX12_readPart_59 : decode cX12_readPart 59 = .ok (.if_icmp .ge 31, 3) := gd_X12_readPart_53.2.2.2.2.1
theorem dX12_readPart_62 : decode cX12_readPart 62 = .ok (.aload_n 0, 1) := gd_X12_readPart_53.2.2.2.2.2.1
theorem dX12_readPart_63 : decode cX12_readPart 63 = .ok (.getfield 43, 3) := gd_X12_readPart_53.2.2.2.2.2.2.1
theorem dX12_readPart_66 : decode cX12_readPart 66 = .ok (.aload_n 0, 1) := gd_X12_readPart_53.2.2.2.2.2.2.2.1
theorem dX12_readPart_67 : decode cX12_readPart 67 = .ok (.getfield 46, 3) := gd_X12_readPart_53.2.2.2.2.2.2.2.2.1
theorem dX12_readPart_70 : decode cX12_readPart 70 = .ok (.iload_n 2, 1) := gd_X12_readPart_53.2.2.2.2.2.2.2.2.2
theorem gd_X12_readPart_71 : decode cX12_readPart 71 = .ok (.iload_n 1, 1) ∧ decode cX12_readPart 72 = .ok (.invokestatic 207, 3) ∧ decode cX12_readPart 75 = .ok (.ifCond .eq 9, 3) ∧ decode cX12_readPart 78 = .ok (.aload_n 0, 1) ∧ decode cX12_readPart 79 = .ok (.iconst 3, 1) ∧ decode cX12_readPart 80 = .ok (.invokevirtual 197, 3) ∧ decode cX12_readPart 83 = .ok (.ireturn, 1) ∧ decode cX12_readPart 84 = .ok (.iinc 2 1, 3) ∧ decode cX12_readPart 87 = .ok (.goto (-30), 3) ∧ decode cX12_readPart 90 = .ok (.aload_n 0, 1) := by decide +kernel
theorem dX12_readPart_71 : decode cX12_readPart 71 = .ok (.iload_n 1, 1) := gd_X12_readPart_71.1
theorem dX12_readPart_72 : decode cX12_readPart 72 = .ok (.invokestatic 207, 3) := gd_X12_readPart_71.2.1
theorem dX12_readPart_75 : decode cX12_readPart 75 = .ok (.ifCond .eq 9, 3) := gd_X12_readPart_71.2.2.1
theorem dX12_readPart_78 : decode cX12_readPart 78 = .ok (.aload_n 0, 1) := gd_X12_readPart_71.2.2.2.1
theorem dX12_readPart_79 : decode cX12_readPart 79 = .ok (.iconst 3, 1) := gd_X12_readPart_71.2.2.2.2.1
theorem dX12_readPart_80 : decode cX12_readPart 80 = .ok (.invokevirtual 197, 3) := gd_X12_readPart_71.2.2.2.2.2.1
theorem dX12_readPart_83 : decode cX12_readPart 83 = .ok (.ireturn, 1) := gd_X12_readPart_71.2.2.2.2.2.2.1
theorem dX12_readPart_84 : decode cX12_readPart 84 = .ok (.iinc 2 1, 3) := gd_X12_readPart_71.2.2.2.2.2.2.2.1
theorem dX12_readPart_87 : decode cX12_readPart 87 = .ok (.goto (-30), 3) := gd_X12_readPart_71.2.2.2.2.2.2.2.2.1
theorem dX12_readPart_90 : decode cX12_readPart 90 = .ok (.aload_n 0, 1) := gd_X12_readPart_71.2.2.2.2.2.2.2.2.2
theorem gd_X12_readPart_91 : decode cX12_readPart 91 = .ok (.getfield 24, 3) ∧ decode cX12_readPart 94 = .ok (.bipush 6, 2) ∧ decode cX12_readPart 96 = .ok (.dup2, 1) ∧ decode cX12_readPart 97 = .ok (.iaload, 1) ∧ decode cX12_readPart 98 = .ok (.iconst 1, 1) ∧ decode cX12_readPart 99 = .ok (.iadd, 1) ∧ decode cX12_readPart 100 = .ok (.iastore, 1) ∧ decode cX12_readPart 101 = .ok (.aload_n 0, 1) ∧ decode cX12_readPart 102 = .ok (.invokevirtual 200, 3) ∧ decode cX12_readPart 105 = .ok (.iconst 1, 1) := by decide +kernel
theorem dX12_readPart_91 : decode cX12_readPart 91 = .ok (.getfield 24, 3) := gd_X12_readPart_91.1
theorem dX12_readPart_94 : decode cX12_readPart 94 = .ok (.bipush 6, 2) := gd_X12_readPart_91.2.1
theorem dX12_readPart_96 : decode cX12_readPart 96 = .ok (.dup2, 1) := gd_X12_readPart_91.2.2.1
theorem dX12_readPart_97 : decode cX12_readPart 97 = .ok (.iaload, 1) := gd_X12_readPart_91.2.2.2.1
theorem dX12_readPart_98 : decode cX12_readPart 98 = .ok (.iconst 1, 1) := gd_X12_readPart_91.2.2.2.2.1
theorem dX12_readPart_99 : decode cX12_readPart 99 = .ok (.iadd, 1) := gd_X12_readPart_91.2.2.2.2.2.1
theorem dX12_readPart_100 : decode cX12_readPart 100 = .ok (.iastore, 1) := gd_X12_readPart_91.2.2.2.2.2.2.1
theorem dX12_readPart_101 : decode cX12_readPart 101 = .ok (.aload_n 0, 1) := gd_X12_readPart_91.2.2.2.2.2.2.2.1
theorem dX12_readPart_102 : decode cX12_readPart 102 = .ok (.invokevirtual 200, 3) := gd_X12_readPart_91.2.2.2.2.2.2.2.2.1
theorem dX12_readPart_105 : decode cX12_readPart 105 = .ok (.iconst 1, 1) := gd_X12_readPart_91.2.2.2.2.2.2.2.2.2
theorem gd_X12_readPart_106 : decode cX12_readPart 106 = .ok (.ireturn, 1) ∧ decode cX12_readLaw 0 = .ok (.aload_n 0, 1) ∧ decode cX12_readLaw 1 = .ok (.getfield 21, 3) ∧ decode cX12_readLaw 4 = .ok (.bipush 6, 2) ∧ decode cX12_readLaw 6 = .ok (.iaload, 1) ∧ decode cX12_readLaw 7 = .ok (.bipush 40, 2) ∧ decode cX12_readLaw 9 = .ok (.if_icmp .ne 9, 3) ∧ decode cX12_readLaw 12 = .ok (.aload_n 0, 1) ∧ decode cX12_readLaw 13 = .ok (.iconst 4, 1) ∧ decode cX12_readLaw 14 = .ok (.invokevirtual 197, 3) := by decide +kernel
theorem dX12_readPart_106 : decode cX12_readPart 106 = .ok (.ireturn, 1) := gd_X12_readPart_106.1
theorem dX12_readLaw_0 : decode cX12_readLaw 0 = .ok (.aload_n 0, 1) := gd_X12_readPart_106.2.1
theorem dX12_readLaw_1 : decode cX12_readLaw 1 = .ok (.getfield 21, 3) := gd_X12_readPart_106.2.2.1
theorem dX12_readLaw_4 : decode cX12_readLaw 4 = .ok (.bipush 6, 2) := gd_X12_readPart_106.2.2.2.1
theorem dX12_readLaw_6 : decode cX12_readLaw 6 = .ok (.iaload, 1) := gd_X12_readPart_106.2.2.2.2.1
theorem dX12_readLaw_7 : decode cX12_readLaw 7 = .ok (.bipush 40, 2) := gd_X12_readPart_106.2.2.2.2.2.1
theorem dX12_readLaw_9 : decode cX12_readLaw 9 = .ok (.if_icmp .ne 9, 3) := gd_X12_readPart_106.2.2.2.2.2.2.1
theorem dX12_readLaw_12 : decode cX12_readLaw 12 = .ok (.aload_n 0, 1) := gd_X12_readPart_106.2.2.2.2.2.2.2.1
theorem dX12_readLaw_13 : decode cX12_readLaw 13 = .ok (.iconst 4, 1) := gd_X12_readPart_106.2.2.2.2.2.2.2.2.1
theorem dX12_readLaw_14 : decode cX12_readLaw 14 = .ok (.invokevirtual 197, 3) := gd_X12_readPart_106.2.2.2.2.2.2.2.2.2
theorem gd_X12_readLaw_17 : decode cX12_readLaw 17 = .ok (.ireturn, 1) ∧ decode cX12_readLaw 18 = .ok (.aload_n 0, 1) ∧ decode cX12_readLaw 19 = .ok (.invokevirtual 200, 3) ∧ decode cX12_readLaw 22 = .ok (.sipush 240, 3) ∧ decode cX12_readLaw 25 = .ok (.aload_n 0, 1) ∧ decode cX12_readLaw 26 = .ok (.getfield 21, 3) ∧ decode cX12_readLaw 29 = .ok (.bipush 6, 2) ∧ decode cX12_readLaw 31 = .ok (.iaload, 1) ∧ decode cX12_readLaw 32 = .ok (.iadd, 1) ∧ decode cX12_readLaw 33 = .ok (.istore_n 1, 1) := by decide +kernel
theorem dX12_readLaw_17 : decode cX12_readLaw 17 = .ok (.ireturn, 1) := gd_X12_readLaw_17.1
theorem dX12_readLaw_18 : decode cX12_readLaw 18 = .ok (.aload_n 0, 1) := gd_X12_readLaw_17.2.1
theorem dX12_readLaw_19 : decode cX12_readLaw 19 = .ok (.invokevirtual 200, 3) := gd_X12_readLaw_17.2.2.1
theorem dX12_readLaw_22 : decode cX12_readLaw 22 = .ok (.sipush 240, 3) := gd_X12_readLaw_17.2.2.2.1
theorem dX12_readLaw_25 : decode cX12_readLaw 25 = .ok (.aload_n 0, 1) := gd_X12_readLaw_17.2.2.2.2.1
theorem dX12_readLaw_26 : decode cX12_readLaw 26 = .ok (.getfield 21, 3) := gd_X12_readLaw_17.2.2.2.2.2.1
theorem dX12_readLaw_29 : decode cX12_readLaw 29 = .ok (.bipush 6, 2) := gd_X12_readLaw_17.2.2.2.2.2.2.1
theorem dX12_readLaw_31 : decode cX12_readLaw 31 = .ok (.iaload, 1) := gd_X12_readLaw_17.2.2.2.2.2.2.2.1
theorem dX12_readLaw_32 : decode cX12_readLaw 32 = .ok (.iadd, 1) := gd_X12_readLaw_17.2.2.2.2.2.2.2.2.1
theorem dX12_readLaw_33 : decode cX12_readLaw 33 = .ok (.istore_n 1, 1) := gd_X12_readLaw_17.2.2.2.2.2.2.2.2.2
theorem gd_X12_readLaw_34 : decode cX12_readLaw 34 = .ok (.aload_n 0, 1) ∧ decode cX12_readLaw 35 = .ok (.aload_n 0, 1) ∧ decode cX12_readLaw 36 = .ok (.getfield 30, 3) ∧ decode cX12_readLaw 39 = .ok (.aload_n 0, 1) ∧ decode cX12_readLaw 40 = .ok (.getfield 33, 3) ∧ decode cX12_readLaw 43 = .ok (.iconst 4, 1) ∧ decode cX12_readLaw 44 = .ok (.iload_n 1, 1) ∧ decode cX12_readLaw 45 = .ok (.imul, 1) ∧ decode cX12_readLaw 46 = .ok (.iconst 1, 1) ∧ decode cX12_readLaw 47 = .ok (.invokevirtual 203, 3) := by decide +kernel
theorem dX12_readLaw_34 : decode cX12_readLaw 34 = .ok (.aload_n 0, 1) := gd_X12_readLaw_34.1
theorem dX12_readLaw_35 : decode cX12_readLaw 35 = .ok (.aload_n 0, 1) := gd_X12_readLaw_34.2.1
theorem dX12_readLaw_36 : decode cX12_readLaw 36 = .ok (.getfield 30, 3) := gd_X12_readLaw_34.2.2.1
theorem dX12_readLaw_39 : decode cX12_readLaw 39 = .ok (.aload_n 0, 1) := gd_X12_readLaw_34.2.2.2.1
theorem dX12_readLaw_40 : decode cX12_readLaw 40 = .ok (.getfield 33, 3) := gd_X12_readLaw_34.2.2.2.2.1
theorem dX12_readLaw_43 : decode cX12_readLaw 43 = .ok (.iconst 4, 1) := gd_X12_readLaw_34.2.2.2.2.2.1
theorem dX12_readLaw_44 : decode cX12_readLaw 44 = .ok (.iload_n 1, 1) := gd_X12_readLaw_34.2.2.2.2.2.2.1
theorem dX12_readLaw_45 : decode cX12_readLaw 45 = .ok (.imul, 1) := gd_X12_readLaw_34.2.2.2.2.2.2.2.1
theorem dX12_readLaw_46 : decode cX12_readLaw 46 = .ok (.iconst 1, 1) := gd_X12_readLaw_34.2.2.2.2.2.2.2.2.1
theorem dX12_readLaw_47 : decode cX12_readLaw 47 = .ok (.invokevirtual 203, 3) := gd_X12_readLaw_34.2.2.2.2.2.2.2.2.2
theorem gd_X12_readLaw_50 : decode cX12_readLaw 50 = .ok (.ifCond .ne 5, 3) ∧ decode cX12_readLaw 53 = .ok (.iconst 0, 1) ∧ decode cX12_readLaw 54 = .ok (.ireturn, 1) ∧ decode cX12_readLaw 55 = .ok (.aload_n 0, 1) ∧ decode cX12_readLaw 56 = .ok (.invokevirtual 200, 3) ∧ decode cX12_readLaw 59 = .ok (.aload_n 0, 1) ∧ decode cX12_readLaw 60 = .ok (.getfield 180, 3) ∧ decode cX12_readLaw 63 = .ok (.iconst 1, 1) ∧ decode cX12_readLaw 64 = .ok (.if_icmp .ne 11, 3) ∧ decode cX12_readLaw 67 = .ok (.aload_n 0, 1) := by decide +kernel
theorem dX12_readLaw_50 : decode cX12_readLaw 50 = .ok (.ifCond .ne 5, 3) := gd_X12_readLaw_50.1
theorem dX12_readLaw_53 : decode cX12_readLaw 53 = .ok (.iconst 0, 1) := gd_X12_readLaw_50.2.1
theorem dX12_readLaw_54 : decode cX12_readLaw 54 = .ok (.ireturn, 1) := gd_X12_readLaw_50.2.2.1
theorem dX12_readLaw_55 : decode cX12_readLaw 55 = .ok (.aload_n 0, 1) := gd_X12_readLaw_50.2.2.2.1
theorem dX12_readLaw_56 : decode cX12_readLaw 56 = .ok (.invokevirtual 200, 3) := gd_X12_readLaw_50.2.2.2.2.1
theorem dX12_readLaw_59 : decode cX12_readLaw 59 = .ok (.aload_n 0, 1) := gd_X12_readLaw_50.2.2.2.2.2.1
theorem dX12_readLaw_60 : decode cX12_readLaw 60 = .ok (.getfield 180, 3) := gd_X12_readLaw_50.2.2.2.2.2.2.1
theorem dX12_readLaw_63 : decode cX12_readLaw 63 = .ok (.iconst 1, 1) := gd_X12_readLaw_50.2.2.2.2.2.2.2.1
theorem dX12_readLaw_64 : decode cX12_readLaw 64 = .ok (.if_icmp .ne 11, 3) := gd_X12_readLaw_50.2.2.2.2.2.2.2.2.1
theorem dX12_readLaw_67 : decode cX12_readLaw 67 = .ok (.aload_n 0, 1) := gd_X12_readLaw_50.2.2.2.2.2.2.2.2.2
theorem gd_X12_readLaw_68 : decode cX12_readLaw 68 = .ok (.getfield 191, 3) ∧ decode cX12_readLaw 71 = .ok (.iconst 2, 1) ∧ decode cX12_readLaw 72 = .ok (.if_icmp .eq 9, 3) ∧ decode cX12_readLaw 75 = .ok (.aload_n 0, 1) ∧ decode cX12_readLaw 76 = .ok (.iconst 1, 1) ∧ decode cX12_readLaw 77 = .ok (.invokevirtual 197, 3) ∧ decode cX12_readLaw 80 = .ok (.ireturn, 1) ∧ decode cX12_readLaw 81 = .ok (.aload_n 0, 1) ∧ decode cX12_readLaw 82 = .ok (.invokevirtual 200, 3) ∧ decode cX12_readLaw 85 = .ok (.aload_n 0, 1) := by decide +kernel
theorem dX12_readLaw_68 : decode cX12_readLaw 68 = .ok (.getfield 191, 3) := gd_X12_readLaw_68.1
theorem dX12_readLaw_71 : decode cX12_readLaw 71 = .ok (.iconst 2, 1) := gd_X12_readLaw_68.2.1
theorem dX12_readLaw_72 : decode cX12_readLaw 72 = .ok (.if_icmp .eq 9, 3) := gd_X12_readLaw_68.2.2.1
theorem dX12_readLaw_75 : decode cX12_readLaw 75 = .ok (.aload_n 0, 1) := gd_X12_readLaw_68.2.2.2.1
theorem dX12_readLaw_76 : decode cX12_readLaw 76 = .ok (.iconst 1, 1) := gd_X12_readLaw_68.2.2.2.2.1
theorem dX12_readLaw_77 : decode cX12_readLaw 77 = .ok (.invokevirtual 197, 3) := gd_X12_readLaw_68.2.2.2.2.2.1
theorem dX12_readLaw_80 : decode cX12_readLaw 80 = .ok (.ireturn, 1) := gd_X12_readLaw_68.2.2.2.2.2.2.1
theorem dX12_readLaw_81 : decode cX12_readLaw 81 = .ok (.aload_n 0, 1) := gd_X12_readLaw_68.2.2.2.2.2.2.2.1
theorem dX12_readLaw_82 : decode cX12_readLaw 82 = .ok (.invokevirtual 200, 3) := gd_X12_readLaw_68.2.2.2.2.2.2.2.2.1
theorem dX12_readLaw_85 : decode cX12_readLaw 85 = .ok (.aload_n 0, 1) := gd_X12_readLaw_68.2.2.2.2.2.2.2.2.2
theorem gd_X12_readLaw_86 : decode cX12_readLaw 86 = .ok (.aload_n 0, 1) ∧ decode cX12_readLaw 87 = .ok (.getfield 30, 3) ∧ decode cX12_readLaw 90 = .ok (.aload_n 0, 1) ∧ decode cX12_readLaw 91 = .ok (.getfield 33, 3) ∧ decode cX12_readLaw 94 = .ok (.iconst 4, 1) ∧ decode cX12_readLaw 95 = .ok (.iload_n 1, 1) ∧ decode cX12_readLaw 96 = .ok (.imul, 1) ∧ decode cX12_readLaw 97 = .ok (.iconst 1, 1) ∧ decode cX12_readLaw 98 = .ok (.iadd, 1) ∧ decode cX12_readLaw 99 = .ok (.iconst 0, 1) := by decide +kernel
theorem dX12_readLaw_86 : decode cX12_readLaw 86 = .ok (.aload_n 0, 1) := gd_X12_readLaw_86.1
theorem dX12_readLaw_87 : decode cX12_readLaw 87 = .ok (.getfield 30, 3) := gd_X12_readLaw_86.2.1
theorem dX12_readLaw_90 : decode cX12_readLaw 90 = .ok (.aload_n 0, 1) := gd_X12_readLaw_86.2.2.1
theorem dX12_readLaw_91 : decode cX12_readLaw 91 = .ok (.getfield 33, 3) := gd_X12_readLaw_86.2.2.2.1
theorem dX12_readLaw_94 : decode cX12_readLaw 94 = .ok (.iconst 4, 1) := gd_X12_readLaw_86.2.2.2.2.1
theorem dX12_readLaw_95 : decode cX12_readLaw 95 = .ok (.iload_n 1, 1) := gd_X12_readLaw_86.2.2.2.2.2.1
theorem dX12_readLaw_96 : decode cX12_readLaw 96 = .ok (.imul, 1) := gd_X12_readLaw_86.2.2.2.2.2.2.1
theorem dX12_readLaw_97 : decode cX12_readLaw 97 = .ok (.iconst 1, 1) := gd_X12_readLaw_86.2.2.2.2.2.2.2.1
theorem dX12_readLaw_98 : decode cX12_readLaw 98 = .ok (.iadd, 1) := gd_X12_readLaw_86.2.2.2.2.2.2.2.2.1
theorem dX12_readLaw_99 : decode cX12_readLaw 99 = .ok (.iconst 0, 1) := gd_X12_readLaw_86.2.2.2.2.2.2.2.2.2
theorem gd_X12_readLaw_100 : decode cX12_readLaw 100 = .ok (.invokevirtual 203, 3) ∧ decode cX12_readLaw 103 = .ok (.ifCond .ne 5, 3) ∧ decode cX12_readLaw 106 = .ok (.iconst 0, 1) ∧ decode cX12_readLaw 107 = .ok (.ireturn, 1) ∧ decode cX12_readLaw 108 = .ok (.aload_n 0, 1) ∧ decode cX12_readLaw 109 = .ok (.invokevirtual 200, 3) ∧ decode cX12_readLaw 112 = .ok (.aload_n 0, 1) ∧ decode cX12_readLaw 113 = .ok (.getfield 36, 3) ∧ decode cX12_readLaw 116 = .ok (.iload_n 1, 1) ∧ decode cX12_readLaw 117 = .ok (.iconst 0, 1) := by decide +kernel
theorem dX12_readLaw_100 : decode cX12_readLaw 100 = .ok (.invokevirtual 203, 3) := gd_X12_readLaw_100.1
theorem dX12_readLaw_103 : decode cX12_readLaw 103 = .ok (.ifCond .ne 5, 3) := gd_X12_readLaw_100.2.1
theorem dX12_readLaw_106 : decode cX12_readLaw 106 = .ok (.iconst 0, 1) := gd_X12_readLaw_100.2.2.1
theorem dX12_readLaw_107 : decode cX12_readLaw 107 = .ok (.ireturn, 1) := gd_X12_readLaw_100.2.2.2.1
theorem dX12_readLaw_108 : decode cX12_readLaw 108 = .ok (.aload_n 0, 1) := gd_X12_readLaw_100.2.2.2.2.1
theorem dX12_readLaw_109 : decode cX12_readLaw 109 = .ok (.invokevirtual 200, 3) := gd_X12_readLaw_100.2.2.2.2.2.1
theorem dX12_readLaw_112 : decode cX12_readLaw 112 = .ok (.aload_n 0, 1) := gd_X12_readLaw_100.2.2.2.2.2.2.1
theorem dX12_readLaw_113 : decode cX12_readLaw 113 = .ok (.getfield 36, 3) := gd_X12_readLaw_100.2.2.2.2.2.2.2.1
theorem dX12_readLaw_116 : decode cX12_readLaw 116 = .ok (.iload_n 1, 1) := gd_X12_readLaw_100.2.2.2.2.2.2.2.2.1
theorem dX12_readLaw_117 : decode cX12_readLaw 117 = .ok (.iconst 0, 1) := gd_X12_readLaw_100.2.2.2.2.2.2.2.2.2
theorem gd_X12_readLaw_118 : decode cX12_readLaw 118 = .ok (.bastore, 1) ∧ decode cX12_readLaw 119 = .ok (.aload_n 0, 1) ∧ decode cX12_readLaw 120 = .ok (.getfield 40, 3) ∧ decode cX12_readLaw 123 = .ok (.iload_n 1, 1) ∧ decode cX12_readLaw 124 = .ok (.iconst 0, 1) ∧ decode cX12_readLaw 125 = .ok (.bastore, 1) ∧ decode cX12_readLaw 126 = .ok (.aload_n 0, 1) ∧ decode cX12_readLaw 127 = .ok (.getfield 33, 3) ∧ decode cX12_readLaw 130 = .ok (.iconst 4, 1) ∧ decode cX12_readLaw 131 = .ok (.iload_n 1, 1) := by decide +kernel
theorem dX12_readLaw_118 : decode cX12_readLaw 118 = .ok (.bastore, 1) := gd_X12_readLaw_118.1
theorem dX12_readLaw_119 : decode cX12_readLaw 119 = .ok (.aload_n 0, 1) := gd_X12_readLaw_118.2.1
theorem dX12_readLaw_120 : decode cX12_readLaw 120 = .ok (.getfield 40, 3) := gd_X12_readLaw_118.2.2.1
theorem dX12_readLaw_123 : decode cX12_readLaw 123 = .ok (.iload_n 1, 1) := gd_X12_readLaw_118.2.2.2.1
theorem dX12_readLaw_124 : decode cX12_readLaw 124 = .ok (.iconst 0, 1) := gd_X12_readLaw_118.2.2.2.2.1
theorem dX12_readLaw_125 : decode cX12_readLaw 125 = .ok (.bastore, 1) := gd_X12_readLaw_118.2.2.2.2.2.1
theorem dX12_readLaw_126 : decode cX12_readLaw 126 = .ok (.aload_n 0, 1) := gd_X12_readLaw_118.2.2.2.2.2.2.1
theorem dX12_readLaw_127 : decode cX12_readLaw 127 = .ok (.getfield 33, 3) := gd_X12_readLaw_118.2.2.2.2.2.2.2.1
theorem dX12_readLaw_130 : decode cX12_readLaw 130 = .ok (.iconst 4, 1) := gd_X12_readLaw_118.2.2.2.2.2.2.2.2.1
theorem dX12_readLaw_131 : decode cX12_readLaw 131 = .ok (.iload_n 1, 1) := gd_X12_readLaw_118.2.2.2.2.2.2.2.2.2
theorem gd_X12_readLaw_132 : decode cX12_readLaw 132 = .ok (.imul, 1) ∧ decode cX12_readLaw 133 = .ok (.iconst 2, 1) ∧ decode cX12_readLaw 134 = .ok (.iadd, 1) ∧ decode cX12_readLaw 135 = .ok (.iconst (-1), 1) ∧ decode cX12_readLaw 136 = .ok (.iastore, 1) ∧ decode cX12_readLaw 137 = .ok (.aload_n 0, 1) ∧ decode cX12_readLaw 138 = .ok (.getfield 33, 3) ∧ decode cX12_readLaw 141 = .ok (.iconst 4, 1) ∧ decode cX12_readLaw 142 = .ok (.iload_n 1, 1) ∧ decode cX12_readLaw 143 = .ok (.imul, 1) := by decide +kernel
theorem dX12_readLaw_132 : decode cX12_readLaw 132 = .ok (.imul, 1) := gd_X12_readLaw_132.1
theorem dX12_readLaw_133 : decode cX12_readLaw 133 = .ok (.iconst 2, 1) := gd_X12_readLaw_132.2.1
theorem dX12_readLaw_134 : decode cX12_readLaw 134 = .ok (.iadd, 1) := gd_X12_readLaw_132.2.2.1
theorem dX12_readLaw_135 : decode cX12_readLaw 135 = .ok (.iconst (-1), 1) := gd_X12_readLaw_132.2.2.2.1
theorem dX12_readLaw_136 : decode cX12_readLaw 136 = .ok (.iastore, 1) := gd_X12_readLaw_132.2.2.2.2.1
theorem dX12_readLaw_137 : decode cX12_readLaw 137 = .ok (.aload_n 0, 1) := gd_X12_readLaw_132.2.2.2.2.2.1
theorem dX12_readLaw_138 : decode cX12_readLaw 138 = .ok (.getfield 33, 3) := gd_X12_readLaw_132.2.2.2.2.2.2.1
theorem dX12_readLaw_141 : decode cX12_readLaw 141 = .ok (.iconst 4, 1) := gd_X12_readLaw_132.2.2.2.2.2.2.2.1
theorem dX12_readLaw_142 : decode cX12_readLaw 142 = .ok (.iload_n 1, 1) := gd_X12_readLaw_132.2.2.2.2.2.2.2.2.1
theorem dX12_readLaw_143 : decode cX12_readLaw 143 = .ok (.imul, 1) := gd_X12_readLaw_132.2.2.2.2.2.2.2.2.2
theorem gd_X12_readLaw_144 : decode cX12_readLaw 144 = .ok (.iconst 3, 1) ∧ decode cX12_readLaw 145 = .ok (.iadd, 1) ∧ decode cX12_readLaw 146 = .ok (.iconst (-1), 1) ∧ decode cX12_readLaw 147 = .ok (.iastore, 1) ∧ decode cX12_readLaw 148 = .ok (.aload_n 0, 1) ∧ decode cX12_readLaw 149 = .ok (.getfield 180, 3) ∧ decode cX12_readLaw 152 = .ok (.iconst 1, 1) ∧ decode cX12_readLaw 153 = .ok (.if_icmp .ne 150, 3) ∧ decode cX12_readLaw 156 = .ok (.aload_n 0, 1) ∧ decode cX12_readLaw 157 = .ok (.getfield 191, 3) := by decide +kernel
theorem dX12_readLaw_144 : decode cX12_readLaw 144 = .ok (.iconst 3, 1) := gd_X12_readLaw_144.1
theorem dX12_readLaw_145 : decode cX12_readLaw 145 = .ok (.iadd, 1) := gd_X12_readLaw_144.2.1
theorem dX12_readLaw_146 : decode cX12_readLaw 146 = .ok (.iconst (-1), 1) := gd_X12_readLaw_144.2.2.1
theorem dX12_readLaw_147 : decode cX12_readLaw 147 = .ok (.iastore, 1) := gd_X12_readLaw_144.2.2.2.1
theorem dX12_readLaw_148 : decode cX12_readLaw 148 = .ok (.aload_n 0, 1) := gd_X12_readLaw_144.2.2.2.2.1
theorem dX12_readLaw_149 : decode cX12_readLaw 149 = .ok (.getfield 180, 3) := gd_X12_readLaw_144.2.2.2.2.2.1
theorem dX12_readLaw_152 : decode cX12_readLaw 152 = .ok (.iconst 1, 1) := gd_X12_readLaw_144.2.2.2.2.2.2.1
theorem dX12_readLaw_153 : decode cX12_readLaw 153 = .ok (.if_icmp .ne 150, 3) := gd_X12_readLaw_144.2.2.2.2.2.2.2.1
theorem dX12_readLaw_156 : decode cX12_readLaw 156 = .ok (.aload_n 0, 1) := gd_X12_readLaw_144.2.2.2.2.2.2.2.2.1
theorem dX12_readLaw_157 : decode cX12_readLaw 157 = .ok (.getfield 191, 3) := gd_X12_readLaw_144.2.2.2.2.2.2.2.2.2
theorem gd_X12_readLaw_160 : decode cX12_readLaw 160 = .ok (.iconst 5, 1) ∧ decode cX12_readLaw 161 = .ok (.if_icmp .lt 142, 3) ∧ decode cX12_readLaw 164 = .ok (.aload_n 0, 1) ∧ decode cX12_readLaw 165 = .ok (.getfield 191, 3) ∧ decode cX12_readLaw 168 = .ok (.istore_n 2, 1) ∧ decode cX12_readLaw 169 = .ok (.iload_n 2, 1) ∧ decode cX12_readLaw 170 = .ok (.iconst 5, 1) ∧ decode cX12_readLaw 171 = .ok (.if_icmp .ne 12, 3) ∧ decode cX12_readLaw 174 = .ok (.aload_n 0, 1) ∧ decode cX12_readLaw 175 = .ok (.getfield 36, 3) := by decide +kernel
theorem dX12_readLaw_160 : decode cX12_readLaw 160 = .ok (.iconst 5, 1) := gd_X12_readLaw_160.1
theorem dX12_readLaw_161 : decode cX12_readLaw 161 = .ok (.if_icmp .lt 142, 3) := gd_X12_readLaw_160.2.1
theorem dX12_readLaw_164 : decode cX12_readLaw 164 = .ok (.aload_n 0, 1) := gd_X12_readLaw_160.2.2.1
theorem dX12_readLaw_165 : decode cX12_readLaw 165 = .ok (.getfield 191, 3) := gd_X12_readLaw_160.2.2.2.1
theorem dX12_readLaw_168 : decode cX12_readLaw 168 = .ok (.istore_n 2, 1) := gd_X12_readLaw_160.2.2.2.2.1
theorem dX12_readLaw_169 : decode cX12_readLaw 169 = .ok (.iload_n 2, 1) := gd_X12_readLaw_160.2.2.2.2.2.1
theorem dX12_readLaw_170 : decode cX12_readLaw 170 = .ok (.iconst 5, 1) := gd_X12_readLaw_160.2.2.2.2.2.2.1
theorem dX12_readLaw_171 : decode cX12_readLaw 171 = .ok (.if_icmp .ne 12, 3) := gd_X12_readLaw_160.2.2.2.2.2.2.2.1
theorem dX12_readLaw_174 : decode cX12_readLaw 174 = .ok (.aload_n 0, 1) := gd_X12_readLaw_160.2.2.2.2.2.2.2.2.1
theorem dX12_readLaw_175 : decode cX12_readLaw 175 = .ok (.getfield 36, 3) := gd_X12_readLaw_160.2.2.2.2.2.2.2.2.2
theorem gd_X12_readLaw_178 : decode cX12_readLaw 178 = .ok (.iload_n 1, 1) ∧ decode cX12_readLaw 179 = .ok (.baload, 1) ∧ decode cX12_readLaw 180 = .ok (.goto 42, 3) ∧ decode cX12_readLaw 183 = .ok (.iload_n 2, 1) ∧ decode cX12_readLaw 184 = .ok (.bipush 6, 2) ∧ decode cX12_readLaw 186 = .ok (.if_icmp .ne 12, 3) ∧ decode cX12_readLaw 189 = .ok (.aload_n 0, 1) ∧ decode cX12_readLaw 190 = .ok (.getfield 40, 3) ∧ decode cX12_readLaw 193 = .ok (.iload_n 1, 1) ∧ decode cX12_readLaw 194 = .ok (.baload, 1) := by decide +kernel
theorem dX12_readLaw_178 : decode cX12_readLaw 178 = .ok (.iload_n 1, 1) := gd_X12_readLaw_178.1
theorem dX12_readLaw_179 : decode cX12_readLaw 179 = .ok (.baload, 1) := gd_X12_readLaw_178.2.1
theorem dX12_readLaw_180 : decode cX12_readLaw 180 = .ok (.goto 42, 3) := gd_X12_readLaw_178.2.2.1
theorem dX12_readLaw_183 : decode cX12_readLaw 183 = .ok (.iload_n 2, 1) := gd_X12_readLaw_178.2.2.2.1
theorem dX12_readLaw_184 : decode cX12_readLaw 184 = .ok (.bipush 6, 2) := gd_X12_readLaw_178.2.2.2.2.1
theorem dX12_readLaw_186 : decode cX12_readLaw 186 = .ok (.if_icmp .ne 12, 3) := gd_X12_readLaw_178.2.2.2.2.2.1
theorem dX12_readLaw_189 : decode cX12_readLaw 189 = .ok (.aload_n 0, 1) := gd_X12_readLaw_178.2.2.2.2.2.2.1
theorem dX12_readLaw_190 : decode cX12_readLaw 190 = .ok (.getfield 40, 3) := gd_X12_readLaw_178.2.2.2.2.2.2.2.1
theorem dX12_readLaw_193 : decode cX12_readLaw 193 = .ok (.iload_n 1, 1) := gd_X12_readLaw_178.2.2.2.2.2.2.2.2.1
theorem dX12_readLaw_194 : decode cX12_readLaw 194 = .ok (.baload, 1) := gd_X12_readLaw_178.2.2.2.2.2.2.2.2.2
theorem gd_X12_readLaw_195 : decode cX12_readLaw 195 = .ok (.goto 27, 3) ∧ decode cX12_readLaw 198 = .ok (.aload_n 0, 1) ∧ decode cX12_readLaw 199 = .ok (.getfield 33, 3) ∧ decode cX12_readLaw 202 = .ok (.iconst 4, 1) ∧ decode cX12_readLaw 203 = .ok (.iload_n 1, 1) ∧ decode cX12_readLaw 204 = .ok (.imul, 1) ∧ decode cX12_readLaw 205 = .ok (.iload_n 2, 1) ∧ decode cX12_readLaw 206 = .ok (.iadd, 1) ∧ decode cX12_readLaw 207 = .ok (.bipush 7, 2) ∧ decode cX12_readLaw 209 = .ok (.isub, 1) := by decide +kernel
theorem dX12_readLaw_195 : decode cX12_readLaw 195 = .ok (.goto 27, 3) := gd_X12_readLaw_195.1
theorem dX12_readLaw_198 : decode cX12_readLaw 198 = .ok (.aload_n 0, 1) := gd_X12_readLaw_195.2.1
theorem dX12_readLaw_199 : decode cX12_readLaw 199 = .ok (.getfield 33, 3) := gd_X12_readLaw_195.2.2.1
theorem dX12_readLaw_202 : decode cX12_readLaw 202 = .ok (.iconst 4, 1) := gd_X12_readLaw_195.2.2.2.1
theorem dX12_readLaw_203 : decode cX12_readLaw 203 = .ok (.iload_n 1, 1) := gd_X12_readLaw_195.2.2.2.2.1
theorem dX12_readLaw_204 : decode cX12_readLaw 204 = .ok (.imul, 1) := gd_X12_readLaw_195.2.2.2.2.2.1
theorem dX12_readLaw_205 : decode cX12_readLaw 205 = .ok (.iload_n 2, 1) := gd_X12_readLaw_195.2.2.2.2.2.2.1
theorem dX12_readLaw_206 : decode cX12_readLaw 206 = .ok (.iadd, 1) := gd_X12_readLaw_195.2.2.2.2.2.2.2.1
theorem dX12_readLaw_207 : decode cX12_readLaw 207 = .ok (.bipush 7, 2) := gd_X12_readLaw_195.2.2.2.2.2.2.2.2.1
theorem dX12_readLaw_209 : decode cX12_readLaw 209 = .ok (.isub, 1) := gd_X12_readLaw_195.2.2.2.2.2.2.2.2.2
theorem gd_X12_readLaw_210 : decode cX12_readLaw 210 = .ok (.iconst 2, 1) ∧ decode cX12_readLaw 211 = .ok (.iadd, 1) ∧ decode cX12_readLaw 212 = .ok (.iaload, 1) ∧ decode cX12_readLaw 213 = .ok (.iconst (-1), 1) ∧ decode cX12_readLaw 214 = .ok (.if_icmp .eq 7, 3) ∧ decode cX12_readLaw 217 = .ok (.iconst 1, 1) ∧ decode cX12_readLaw 218 = .ok (.goto 4, 3) ∧ decode cX12_readLaw 221 = .ok (.iconst 0, 1) ∧ decode cX12_readLaw 222 = .ok (.istore_n 3, 1) ∧ decode cX12_readLaw 223 = .ok (.iload_n 3, 1) := by decide +kernel
theorem dX12_readLaw_210 : decode cX12_readLaw 210 = .ok (.iconst 2, 1) := gd_X12_readLaw_210.1
theorem dX12_readLaw_211 : decode cX12_readLaw 211 = .ok (.iadd, 1) := gd_X12_readLaw_210.2.1
theorem dX12_readLaw_212 : decode cX12_readLaw 212 = .ok (.iaload, 1) := gd_X12_readLaw_210.2.2.1
theorem dX12_readLaw_213 : decode cX12_readLaw 213 = .ok (.iconst (-1), 1) := gd_X12_readLaw_210.2.2.2.1
theorem dX12_readLaw_214 : decode cX12_readLaw 214 = .ok (.if_icmp .eq 7, 3) := gd_X12_readLaw_210.2.2.2.2.1
theorem dX12_readLaw_217 : decode cX12_readLaw 217 = .ok (.iconst 1, 1) := gd_X12_readLaw_210.2.2.2.2.2.1
theorem dX12_readLaw_218 : decode cX12_readLaw 218 = .ok (.goto 4, 3) := gd_X12_readLaw_210.2.2.2.2.2.2.1
theorem dX12_readLaw_221 : decode cX12_readLaw 221 = .ok (.iconst 0, 1) := gd_X12_readLaw_210.2.2.2.2.2.2.2.1
theorem dX12_readLaw_222 : decode cX12_readLaw 222 = .ok (.istore_n 3, 1) := gd_X12_readLaw_210.2.2.2.2.2.2.2.2.1
theorem dX12_readLaw_223 : decode cX12_readLaw 223 = .ok (.iload_n 3, 1) := gd_X12_readLaw_210.2.2.2.2.2.2.2.2.2
theorem gd_X12_readLaw_224 : decode cX12_readLaw 224 = .ok (.ifCond .eq 9, 3) ∧ decode cX12_readLaw 227 = .ok (.aload_n 0, 1) ∧ decode cX12_readLaw 228 = .ok (.iconst 3, 1) ∧ decode cX12_readLaw 229 = .ok (.invokevirtual 197, 3) ∧ decode cX12_readLaw 232 = .ok (.ireturn, 1) ∧ decode cX12_readLaw 233 = .ok (.aload_n 0, 1) ∧ decode cX12_readLaw 234 = .ok (.invokevirtual 200, 3) ∧ decode cX12_readLaw 237 = .ok (.iload_n 2, 1) ∧ decode cX12_readLaw 238 = .ok (.iconst 5, 1) ∧ decode cX12_readLaw 239 = .ok (.if_icmp .ne 13, 3) := by decide +kernel
theorem dX12_readLaw_224 : decode cX12_readLaw 224 = .ok (.ifCond .eq 9, 3) := gd_X12_readLaw_224.1
theorem dX12_readLaw_227 : decode cX12_readLaw 227 = .ok (.aload_n 0, 1) := gd_X12_readLaw_224.2.1
theorem dX12_readLaw_228 : decode cX12_readLaw 228 = .ok (.iconst 3, 1) := gd_X12_readLaw_224.2.2.1
theorem dX12_readLaw_229 : decode cX12_readLaw 229 = .ok (.invokevirtual 197, 3) := gd_X12_readLaw_224.2.2.2.1
theorem dX12_readLaw_232 : decode cX12_readLaw 232 = .ok (.ireturn, 1) := gd_X12_readLaw_224.2.2.2.2.1
theorem dX12_readLaw_233 : decode cX12_readLaw 233 = .ok (.aload_n 0, 1) := gd_X12_readLaw_224.2.2.2.2.2.1
theorem dX12_readLaw_234 : decode cX12_readLaw 234 = .ok (.invokevirtual 200, 3) := gd_X12_readLaw_224.2.2.2.2.2.2.1
theorem dX12_readLaw_237 : decode cX12_readLaw 237 = .ok (.iload_n 2, 1) := gd_X12_readLaw_224.2.2.2.2.2.2.2.1
theorem dX12_readLaw_238 : decode cX12_readLaw 238 = .ok (.iconst 5, 1) := gd_X12_readLaw_224.2.2.2.2.2.2.2.2.1
theorem dX12_readLaw_239 : decode cX12_readLaw 239 = .ok (.if_icmp .ne 13, 3) := gd_X12_readLaw_224.2.2.2.2.2.2.2.2.2
theorem gd_X12_readLaw_242 : decode cX12_readLaw 242 = .ok (.aload_n 0, 1) ∧ decode cX12_readLaw 243 = .ok (.getfield 36, 3) ∧ decode cX12_readLaw 246 = .ok (.iload_n 1, 1) ∧ decode cX12_readLaw 247 = .ok (.iconst 1, 1) ∧ decode cX12_readLaw 248 = .ok (.bastore, 1) ∧ decode cX12_readLaw 249 = .ok (.goto 51, 3) ∧ decode cX12_readLaw 252 = .ok (.iload_n 2, 1) ∧ decode cX12_readLaw 253 = .ok (.bipush 6, 2) ∧ decode cX12_readLaw 255 = .ok (.if_icmp .ne 13, 3) ∧ decode cX12_readLaw 258 = .ok (.aload_n 0, 1) := by decide +kernel
theorem dX12_readLaw_242 : decode cX12_readLaw 242 = .ok (.aload_n 0, 1) := gd_X12_readLaw_242.1
theorem dX12_readLaw_243 : decode cX12_readLaw 243 = .ok (.getfield 36, 3) := gd_X12_readLaw_242.2.1
theorem dX12_readLaw_246 : decode cX12_readLaw 246 = .ok (.iload_n 1, 1) := gd_X12_readLaw_242.2.2.1
theorem dX12_readLaw_247 : decode cX12_readLaw 247 = .ok (.iconst 1, 1) := gd_X12_readLaw_242.2.2.2.1
theorem dX12_readLaw_248 : decode cX12_readLaw 248 = .ok (.bastore, 1) := gd_X12_readLaw_242.2.2.2.2.1
theorem dX12_readLaw_249 : decode cX12_readLaw 249 = .ok (.goto 51, 3) := gd_X12_readLaw_242.2.2.2.2.2.1
theorem dX12_readLaw_252 : decode cX12_readLaw 252 = .ok (.iload_n 2, 1) := gd_X12_readLaw_242.2.2.2.2.2.2.1
theorem dX12_readLaw_253 : decode cX12_readLaw 253 = .ok (.bipush 6, 2) := gd_X12_readLaw_242.2.2.2.2.2.2.2.1
theorem dX12_readLaw_255 : decode cX12_readLaw 255 = .ok (.if_icmp .ne 13, 3) := gd_X12_readLaw_242.2.2.2.2.2.2.2.2.1
theorem dX12_readLaw_258 : decode cX12_readLaw 258 = .ok (.aload_n 0, 1) := gd_X12_readLaw_242.2.2.2.2.2.2.2.2.2
theorem gd_X12_readLaw_259 : decode cX12_readLaw 259 = .ok (.getfield 40, 3) ∧ decode cX12_readLaw 262 = .ok (.iload_n 1, 1) ∧ decode cX12_readLaw 263 = .ok (.iconst 1, 1) ∧ decode cX12_readLaw 264 = .ok (.bastore, 1) ∧ decode cX12_readLaw 265 = .ok (.goto 35, 3) ∧ decode cX12_readLaw 268 = .ok (.aload_n 0, 1) ∧ decode cX12_readLaw 269 = .ok (.aload_n 0, 1) ∧ decode cX12_readLaw 270 = .ok (.getfield 30, 3) ∧ decode cX12_readLaw 273 = .ok (.aload_n 0, 1) ∧ decode cX12_readLaw 274 = .ok (.getfield 33, 3) := by decide +kernel
theorem dX12_readLaw_259 : decode cX12_readLaw 259 = .ok (.getfield 40, 3) := gd_X12_readLaw_259.1
theorem dX12_readLaw_262 : decode cX12_readLaw 262 = .ok (.iload_n 1, 1) := gd_X12_readLaw_259.2.1
theorem dX12_readLaw_263 : decode cX12_readLaw 263 = .ok (.iconst 1, 1) := gd_X12_readLaw_259.2.2.1
theorem dX12_readLaw_264 : decode cX12_readLaw 264 = .ok (.bastore, 1) := gd_X12_readLaw_259.2.2.2.1
theorem dX12_readLaw_265 : decode cX12_readLaw 265 = .ok (.goto 35, 3) := gd_X12_readLaw_259.2.2.2.2.1
theorem dX12_readLaw_268 : decode cX12_readLaw 268 = .ok (.aload_n 0, 1) := gd_X12_readLaw_259.2.2.2.2.2.1
theorem dX12_readLaw_269 : decode cX12_readLaw 269 = .ok (.aload_n 0, 1) := gd_X12_readLaw_259.2.2.2.2.2.2.1
theorem dX12_readLaw_270 : decode cX12_readLaw 270 = .ok (.getfield 30, 3) := gd_X12_readLaw_259.2.2.2.2.2.2.2.1
theorem dX12_readLaw_273 : decode cX12_readLaw 273 = .ok (.aload_n 0, 1) := gd_X12_readLaw_259.2.2.2.2.2.2.2.2.1
theorem dX12_readLaw_274 : decode cX12_readLaw 274 = .ok (.getfield 33, 3) := gd_X12_readLaw_259.2.2.2.2.2.2.2.2.2
theorem gd_X12_readLaw_277 : decode cX12_readLaw 277 = .ok (.iconst 4, 1) ∧ decode cX12_readLaw 278 = .ok (.iload_n 1, 1) ∧ decode cX12_readLaw 279 = .ok (.imul, 1) ∧ decode cX12_readLaw 280 = .ok (.iload_n 2, 1) ∧ decode cX12_readLaw 281 = .ok (.iadd, 1) ∧ decode cX12_readLaw 282 = .ok (.bipush 7, 2) ∧ decode cX12_readLaw 284 = .ok (.isub, 1) ∧ decode cX12_readLaw 285 = .ok (.iconst 2, 1) ∧ decode cX12_readLaw 286 = .ok (.iadd, 1) ∧ decode cX12_readLaw 287 = .ok (.iconst 1, 1) := by decide +kernel
theorem dX12_readLaw_277 : decode cX12_readLaw 277 = .ok (.iconst 4, 1) := gd_X12_readLaw_277.1
theorem dX12_readLaw_278 : decode cX12_readLaw 278 = .ok (.iload_n 1, 1) := gd_X12_readLaw_277.2.1
theorem dX12_readLaw_279 : decode cX12_readLaw 279 = .ok (.imul, 1) := gd_X12_readLaw_277.2.2.1
theorem dX12_readLaw_280 : decode cX12_readLaw 280 = .ok (.iload_n 2, 1) := gd_X12_readLaw_277.2.2.2.1
theorem dX12_readLaw_281 : decode cX12_readLaw 281 = .ok (.iadd, 1) := gd_X12_readLaw_277.2.2.2.2.1
theorem dX12_readLaw_282 : decode cX12_readLaw 282 = .ok (.bipush 7, 2) := gd_X12_readLaw_277.2.2.2.2.2.1
theorem dX12_readLaw_284 : decode cX12_readLaw 284 = .ok (.isub, 1) := gd_X12_readLaw_277.2.2.2.2.2.2.1
theorem dX12_readLaw_285 : decode cX12_readLaw 285 = .ok (.iconst 2, 1) := gd_X12_readLaw_277.2.2.2.2.2.2.2.1
theorem dX12_readLaw_286 : decode cX12_readLaw 286 = .ok (.iadd, 1) := gd_X12_readLaw_277.2.2.2.2.2.2.2.2.1
theorem dX12_readLaw_287 : decode cX12_readLaw 287 = .ok (.iconst 1, 1) := gd_X12_readLaw_277.2.2.2.2.2.2.2.2.2
theorem gd_X12_readLaw_288 : decode cX12_readLaw 288 = .ok (.invokevirtual 203, 3) ∧ decode cX12_readLaw 291 = .ok (.ifCond .ne 5, 3) ∧ decode cX12_readLaw 294 = .ok (.iconst 0, 1) ∧ decode cX12_readLaw 295 = .ok (.ireturn, 1) ∧ decode cX12_readLaw 296 = .ok (.aload_n 0, 1) ∧ decode cX12_readLaw 297 = .ok (.invokevirtual 200, 3) ∧ decode cX12_readLaw 300 = .ok (.goto (-152), 3) ∧ decode cX12_readLaw 303 = .ok (.aload_n 0, 1) ∧ decode cX12_readLaw 304 = .ok (.getfield 21, 3) ∧ decode cX12_readLaw 307 = .ok (.bipush 6, 2) := by decide +kernel
theorem dX12_readLaw_288 : decode cX12_readLaw 288 = .ok (.invokevirtual 203, 3) := gd_X12_readLaw_288.1
theorem dX12_readLaw_291 : decode cX12_readLaw 291 = .ok (.ifCond .ne 5, 3) := gd_X12_readLaw_288.2.1
theorem dX12_readLaw_294 : decode cX12_readLaw 294 = .ok (.iconst 0, 1) := gd_X12_readLaw_288.2.2.1
theorem dX12_readLaw_295 : decode cX12_readLaw 295 = .ok (.ireturn, 1) := gd_X12_readLaw_288.2.2.2.1
theorem dX12_readLaw_296 : decode cX12_readLaw 296 = .ok (.aload_n 0, 1) := gd_X12_readLaw_288.2.2.2.2.1
theorem dX12_readLaw_297 : decode cX12_readLaw 297 = .ok (.invokevirtual 200, 3) := gd_X12_readLaw_288.2.2.2.2.2.1
theorem dX12_readLaw_300 : decode cX12_readLaw 300 = .ok (.goto (-152), 3) := gd_X12_readLaw_288.2.2.2.2.2.2.1
theorem dX12_readLaw_303 : decode cX12_readLaw 303 = .ok (.aload_n 0, 1) := gd_X12_readLaw_288.2.2.2.2.2.2.2.1
theorem dX12_readLaw_304 : decode cX12_readLaw 304 = .ok (.getfield 21, 3) := gd_X12_readLaw_288.2.2.2.2.2.2.2.2.1
theorem dX12_readLaw_307 : decode cX12_readLaw 307 = .ok (.bipush 6, 2) := gd_X12_readLaw_288.2.2.2.2.2.2.2.2.2
theorem gd_X12_readLaw_309 : decode cX12_readLaw 309 = .ok (.dup2, 1) ∧ decode cX12_readLaw 310 = .ok (.iaload, 1) ∧ decode cX12_readLaw 311 = .ok (.iconst 1, 1) ∧ decode cX12_readLaw 312 = .ok (.iadd, 1) ∧ decode cX12_readLaw 313 = .ok (.iastore, 1) ∧ decode cX12_readLaw 314 = .ok (.iconst 1, 1) ∧ decode cX12_readLaw 315 = .ok (.ireturn, 1) ∧ decode cX12_readItem 0 = .ok (.aload_n 0, 1) ∧ decode cX12_readItem 1 = .ok (.getfield 180, 3) ∧ decode cX12_readItem 4 = .ok (.iconst 1, 1) := by decide +kernel
theorem dX12_readLaw_309 : decode cX12_readLaw 309 = .ok (.dup2, 1) := gd_X12_readLaw_309.1
theorem dX12_readLaw_310 : decode cX12_readLaw 310 = .ok (.iaload, 1) := gd_X12_readLaw_309.2.1
theorem dX12_readLaw_311 : decode cX12_readLaw 311 = .ok (.iconst 1, 1) := gd_X12_readLaw_309.2.2.1
theorem dX12_readLaw_312 : decode cX12_readLaw 312 = .ok (.iadd, 1) := gd_X12_readLaw_309.2.2.2.1
theorem dX12_readLaw_313 : decode cX12_readLaw 313 = .ok (.iastore, 1) := gd_X12_readLaw_309.2.2.2.2.1
theorem dX12_readLaw_314 : decode cX12_readLaw 314 = .ok (.iconst 1, 1) := gd_X12_readLaw_309.2.2.2.2.2.1
theorem dX12_readLaw_315 : decode cX12_readLaw 315 = .ok (.ireturn, 1) := gd_X12_readLaw_309.2.2.2.2.2.2.1
theorem dX12_readItem_0 : decode cX12_readItem 0 = .ok (.aload_n 0, 1) := gd_X12_readLaw_309.2.2.2.2.2.2.2.1
theorem dX12_readItem_1 : decode cX12_readItem 1 = .ok (.getfield 180, 3) := gd_X12_readLaw_309.2.2.2.2.2.2.2.2.1
theorem dX12_readItem_4 : decode cX12_readItem 4 = .ok (.iconst 1, 1) := gd_X12_readLaw_309.2.2.2.2.2.2.2.2.2
theorem gd_X12_readItem_5 : decode cX12_readItem 5 = .ok (.if_icmp .eq 9, 3) ∧ decode cX12_readItem 8 = .ok (.aload_n 0, 1) ∧ decode cX12_readItem 9 = .ok (.iconst 1, 1) ∧ decode cX12_readItem 10 = .ok (.invokevirtual 197, 3) ∧ decode cX12_readItem 13 = .ok (.ireturn, 1) ∧ decode cX12_readItem 14 = .ok (.aload_n 0, 1) ∧ decode cX12_readItem 15 = .ok (.getfield 191, 3) ∧ decode cX12_readItem 18 = .ok (.ifCond .eq 11, 3) ∧ decode cX12_readItem 21 = .ok (.aload_n 0, 1) ∧ decode cX12_readItem 22 = .ok (.getfield 191, 3) := by decide +kernel
theorem dX12_readItem_5 : decode cX12_readItem 5 = .ok (.if_icmp .eq 9, 3) := gd_X12_readItem_5.1
theorem dX12_readItem_8 : decode cX12_readItem 8 = .ok (.aload_n 0, 1) := gd_X12_readItem_5.2.1
theorem dX12_readItem_9 : decode cX12_readItem 9 = .ok (.iconst 1, 1) := gd_X12_readItem_5.2.2.1
theorem dX12_readItem_10 : decode cX12_readItem 10 = .ok (.invokevirtual 197, 3) := gd_X12_readItem_5.2.2.2.1
theorem dX12_readItem_13 : decode cX12_readItem 13 = .ok (.ireturn, 1) := gd_X12_readItem_5.2.2.2.2.1
theorem dX12_readItem_14 : decode cX12_readItem 14 = .ok (.aload_n 0, 1) := gd_X12_readItem_5.2.2.2.2.2.1
theorem dX12_readItem_15 : decode cX12_readItem 15 = .ok (.getfield 191, 3) := gd_X12_readItem_5.2.2.2.2.2.2.1
theorem dX12_readItem_18 : decode cX12_readItem 18 = .ok (.ifCond .eq 11, 3) := gd_X12_readItem_5.2.2.2.2.2.2.2.1
theorem dX12_readItem_21 : decode cX12_readItem 21 = .ok (.aload_n 0, 1) := gd_X12_readItem_5.2.2.2.2.2.2.2.2.1
theorem dX12_readItem_22 : decode cX12_readItem 22 = .ok (.getfield 191, 3) := gd_X12_readItem_5.2.2.2.2.2.2.2.2.2
theorem gd_X12_readItem_25 : decode cX12_readItem 25 = .ok (.iconst 1, 1) ∧ decode cX12_readItem 26 = .ok (.if_icmp .ne 24, 3) ∧ decode cX12_readItem 29 = .ok (.aload_n 0, 1) ∧ decode cX12_readItem 30 = .ok (.aload_n 0, 1) ∧ decode cX12_readItem 31 = .ok (.getfield 191, 3) ∧ decode cX12_readItem 34 = .ok (.iconst 1, 1) ∧ decode cX12_readItem 35 = .ok (.if_icmp .ne 7, 3) ∧ decode cX12_readItem 38 = .ok (.iconst 1, 1) ∧ decode cX12_readItem 39 = .ok (.goto 4, 3) ∧ decode cX12_readItem 42 = .ok (.iconst 0, 1) := by decide +kernel
theorem dX12_readItem_25 : decode cX12_readItem 25 = .ok (.iconst 1, 1) := gd_X12_readItem_25.1
theorem dX12_readItem_26 : decode cX12_readItem 26 = .ok (.if_icmp .ne 24, 3) := gd_X12_readItem_25.2.1
theorem dX12_readItem_29 : decode cX12_readItem 29 = .ok (.aload_n 0, 1) := gd_X12_readItem_25.2.2.1
theorem dX12_readItem_30 : decode cX12_readItem 30 = .ok (.aload_n 0, 1) := gd_X12_readItem_25.2.2.2.1
theorem dX12_readItem_31 : decode cX12_readItem 31 = .ok (.getfield 191, 3) := gd_X12_readItem_25.2.2.2.2.1
theorem dX12_readItem_34 : decode cX12_readItem 34 = .ok (.iconst 1, 1) := gd_X12_readItem_25.2.2.2.2.2.1
theorem dX12_readItem_35 : decode cX12_readItem 35 = .ok (.if_icmp .ne 7, 3) := gd_X12_readItem_25.2.2.2.2.2.2.1
theorem dX12_readItem_38 : decode cX12_readItem 38 = .ok (.iconst 1, 1) := gd_X12_readItem_25.2.2.2.2.2.2.2.1
theorem dX12_readItem_39 : decode cX12_readItem 39 = .ok (.goto 4, 3) := gd_X12_readItem_25.2.2.2.2.2.2.2.2.1
theorem dX12_readItem_42 : decode cX12_readItem 42 = .ok (.iconst 0, 1) := gd_X12_readItem_25.2.2.2.2.2.2.2.2.2
theorem gd_X12_readItem_43 : decode cX12_readItem 43 = .ok (.invokevirtual 211, 3) ∧ decode cX12_readItem 46 = .ok (.istore_n 1, 1) ∧ decode cX12_readItem 47 = .ok (.goto 41, 3) ∧ decode cX12_readItem 50 = .ok (.aload_n 0, 1) ∧ decode cX12_readItem 51 = .ok (.getfield 191, 3) ∧ decode cX12_readItem 54 = .ok (.iconst 3, 1) ∧ decode cX12_readItem 55 = .ok (.if_icmp .ne 11, 3) ∧ decode cX12_readItem 58 = .ok (.aload_n 0, 1) ∧ decode cX12_readItem 59 = .ok (.invokevirtual 215, 3) ∧ decode cX12_readItem 62 = .ok (.istore_n 1, 1) := by decide +kernel
theorem dX12_readItem_43 : decode cX12_readItem 43 = .ok (.invokevirtual 211, 3) := gd_X12_readItem_43.1
theorem dX12_readItem_46 : decode cX12_readItem 46 = .ok (.istore_n 1, 1) := gd_X12_readItem_43.2.1
theorem dX12_readItem_47 : decode cX12_readItem 47 = .ok (.goto 41, 3) := gd_X12_readItem_43.2.2.1
theorem dX12_readItem_50 : decode cX12_readItem 50 = .ok (.aload_n 0, 1) := gd_X12_readItem_43.2.2.2.1
theorem dX12_readItem_51 : decode cX12_readItem 51 = .ok (.getfield 191, 3) := gd_X12_readItem_43.2.2.2.2.1
theorem dX12_readItem_54 : decode cX12_readItem 54 = .ok (.iconst 3, 1) := gd_X12_readItem_43.2.2.2.2.2.1
theorem dX12_readItem_55 : decode cX12_readItem 55 = .ok (.if_icmp .ne 11, 3) := gd_X12_readItem_43.2.2.2.2.2.2.1
theorem dX12_readItem_58 : decode cX12_readItem 58 = .ok (.aload_n 0, 1) := gd_X12_readItem_43.2.2.2.2.2.2.2.1
theorem dX12_readItem_59 : decode cX12_readItem 59 = .ok (.invokevirtual 215, 3) := gd_X12_readItem_43.2.2.2.2.2.2.2.2.1
theorem dX12_readItem_62 : decode cX12_readItem 62 = .ok (.istore_n 1, 1) := gd_X12_readItem_43.2.2.2.2.2.2.2.2.2
theorem gd_X12_readItem_63 : decode cX12_readItem 63 = .ok (.goto 25, 3) ∧ decode cX12_readItem 66 = .ok (.aload_n 0, 1) ∧ decode cX12_readItem 67 = .ok (.getfield 191, 3) ∧ decode cX12_readItem 70 = .ok (.iconst 4, 1) ∧ decode cX12_readItem 71 = .ok (.if_icmp .ne 11, 3) ∧ decode cX12_readItem 74 = .ok (.aload_n 0, 1) ∧ decode cX12_readItem 75 = .ok (.invokevirtual 219, 3) ∧ decode cX12_readItem 78 = .ok (.istore_n 1, 1) ∧ decode cX12_readItem 79 = .ok (.goto 9, 3) ∧ decode cX12_readItem 82 = .ok (.aload_n 0, 1) := by decide +kernel
theorem dX12_readItem_63 : decode cX12_readItem 63 = .ok (.goto 25, 3) := gd_X12_readItem_63.1
theorem dX12_readItem_66 : decode cX12_readItem 66 = .ok (.aload_n 0, 1) := gd_X12_readItem_63.2.1
theorem dX12_readItem_67 : decode cX12_readItem 67 = .ok (.getfield 191, 3) := gd_X12_readItem_63.2.2.1
theorem dX12_readItem_70 : decode cX12_readItem 70 = .ok (.iconst 4, 1) := gd_X12_readItem_63.2.2.2.1
theorem dX12_readItem_71 : decode cX12_readItem 71 = .ok (.if_icmp .ne 11, 3) := gd_X12_readItem_63.2.2.2.2.1
theorem dX12_readItem_74 : decode cX12_readItem 74 = .ok (.aload_n 0, 1) := gd_X12_readItem_63.2.2.2.2.2.1
theorem dX12_readItem_75 : decode cX12_readItem 75 = .ok (.invokevirtual 219, 3) := gd_X12_readItem_63.2.2.2.2.2.2.1
theorem dX12_readItem_78 : decode cX12_readItem 78 = .ok (.istore_n 1, 1) := gd_X12_readItem_63.2.2.2.2.2.2.2.1
theorem dX12_readItem_79 : decode cX12_readItem 79 = .ok (.goto 9, 3) := gd_X12_readItem_63.2.2.2.2.2.2.2.2.1
theorem dX12_readItem_82 : decode cX12_readItem 82 = .ok (.aload_n 0, 1) := gd_X12_readItem_63.2.2.2.2.2.2.2.2.2
theorem gd_X12_readItem_83 : decode cX12_readItem 83 = .ok (.iconst 1, 1) ∧ decode cX12_readItem 84 = .ok (.invokevirtual 197, 3) ∧ decode cX12_readItem 87 = .ok (.ireturn, 1) ∧ decode cX12_readItem 88 = .ok (.iload_n 1, 1) ∧ decode cX12_readItem 89 = .ok (.ifCond .ne 5, 3) ∧ decode cX12_readItem 92 = .ok (.iconst 0, 1) ∧ decode cX12_readItem 93 = .ok (.ireturn, 1) ∧ decode cX12_readItem 94 = .ok (.aload_n 0, 1) ∧ decode cX12_readItem 95 = .ok (.getfield 180, 3) ∧ decode cX12_readItem 98 = .ok (.iconst 3, 1) := by decide +kernel
theorem dX12_readItem_83 : decode cX12_readItem 83 = .ok (.iconst 1, 1) := gd_X12_readItem_83.1
theorem dX12_readItem_84 : decode cX12_readItem 84 = .ok (.invokevirtual 197, 3) := gd_X12_readItem_83.2.1
theorem dX12_readItem_87 : decode cX12_readItem 87 = .ok (.ireturn, 1) := gd_X12_readItem_83.2.2.1
theorem dX12_readItem_88 : decode cX12_readItem 88 = .ok (.iload_n 1, 1) := gd_X12_readItem_83.2.2.2.1
theorem dX12_readItem_89 : decode cX12_readItem 89 = .ok (.ifCond .ne 5, 3) := gd_X12_readItem_83.2.2.2.2.1
theorem dX12_readItem_92 : decode cX12_readItem 92 = .ok (.iconst 0, 1) := gd_X12_readItem_83.2.2.2.2.2.1
theorem dX12_readItem_93 : decode cX12_readItem 93 = .ok (.ireturn, 1) := gd_X12_readItem_83.2.2.2.2.2.2.1
theorem dX12_readItem_94 : decode cX12_readItem 94 = .ok (.aload_n 0, 1) := gd_X12_readItem_83.2.2.2.2.2.2.2.1
theorem dX12_readItem_95 : decode cX12_readItem 95 = .ok (.getfield 180, 3) := gd_X12_readItem_83.2.2.2.2.2.2.2.2.1
theorem dX12_readItem_98 : decode cX12_readItem 98 = .ok (.iconst 3, 1) := gd_X12_readItem_83.2.2.2.2.2.2.2.2.2
theorem gd_X12_readItem_99 : decode cX12_readItem 99 = .ok (.if_icmp .eq 9, 3) ∧ decode cX12_readItem 102 = .ok (.aload_n 0, 1) ∧ decode cX12_readItem 103 = .ok (.iconst 1, 1) ∧ decode cX12_readItem 104 = .ok (.invokevirtual 197, 3) ∧ decode cX12_readItem 107 = .ok (.ireturn, 1) ∧ decode cX12_readItem 108 = .ok (.aload_n 0, 1) ∧ decode cX12_readItem 109 = .ok (.invokevirtual 200, 3) ∧ decode cX12_readItem 112 = .ok (.iconst 1, 1) ∧ decode cX12_readItem 113 = .ok (.ireturn, 1) ∧ decode cX12_reform 25 = .ok (.aload_n 0, 1) := by decide +kernel
theorem dX12_readItem_99 : decode cX12_readItem 99 = .ok (.if_icmp .eq 9, 3) := gd_X12_readItem_99.1
theorem dX12_readItem_102 : decode cX12_readItem 102 = .ok (.aload_n 0, 1) := gd_X12_readItem_99.2.1
theorem dX12_readItem_103 : decode cX12_readItem 103 = .ok (.iconst 1, 1) := gd_X12_readItem_99.2.2.1
theorem dX12_readItem_104 : decode cX12_readItem 104 = .ok (.invokevirtual 197, 3) := gd_X12_readItem_99.2.2.2.1
theorem dX12_readItem_107 : decode cX12_readItem 107 = .ok (.ireturn, 1) := gd_X12_readItem_99.2.2.2.2.1
theorem dX12_readItem_108 : decode cX12_readItem 108 = .ok (.aload_n 0, 1) := gd_X12_readItem_99.2.2.2.2.2.1
theorem dX12_readItem_109 : decode cX12_readItem 109 = .ok (.invokevirtual 200, 3) := gd_X12_readItem_99.2.2.2.2.2.2.1
theorem dX12_readItem_112 : decode cX12_readItem 112 = .ok (.iconst 1, 1) := gd_X12_readItem_99.2.2.2.2.2.2.2.1
theorem dX12_readItem_113 : decode cX12_readItem 113 = .ok (.ireturn, 1) := gd_X12_readItem_99.2.2.2.2.2.2.2.2.1
theorem dX12_reform_25 : decode cX12_reform 25 = .ok (.aload_n 0, 1) := gd_X12_readItem_99.2.2.2.2.2.2.2.2.2
theorem gd_X12_reform_26 : decode cX12_reform 26 = .ok (.getfield 17, 3) ∧ decode cX12_reform 29 = .ok (.aload_n 0, 1) ∧ decode cX12_reform 30 = .ok (.getfield 222, 3) ∧ decode cX12_reform 33 = .ok (.iconst 1, 1) ∧ decode cX12_reform 34 = .ok (.isub, 1) ∧ decode cX12_reform 35 = .ok (.iaload, 1) ∧ decode cX12_reform 36 = .ok (.iconst 1, 1) ∧ decode cX12_reform 37 = .ok (.iadd, 1) ∧ decode cX12_reform 100 = .ok (.aload_n 0, 1) ∧ decode cX12_reform 101 = .ok (.invokevirtual 230, 3) := by decide +kernel
theorem dX12_reform_26 : decode cX12_reform 26 = .ok (.getfield 17, 3) := gd_X12_reform_26.1
theorem dX12_reform_29 : decode cX12_reform 29 = .ok (.aload_n 0, 1) := gd_X12_reform_26.2.1
theorem dX12_reform_30 : decode cX12_reform 30 = .ok (.getfield 222, 3) := gd_X12_reform_26.2.2.1
theorem dX12_reform_33 : decode cX12_reform 33 = .ok (.iconst 1, 1) := gd_X12_reform_26.2.2.2.1
theorem dX12_reform_34 : decode cX12_reform 34 = .ok (.isub, 1) := gd_X12_reform_26.2.2.2.2.1
theorem dX12_reform_35 : decode cX12_reform 35 = .ok (.iaload, 1) := gd_X12_reform_26.2.2.2.2.2.1
theorem dX12_reform_36 : decode cX12_reform 36 = .ok (.iconst 1, 1) := gd_X12_reform_26.2.2.2.2.2.2.1
theorem dX12_reform_37 : decode cX12_reform 37 = .ok (.iadd, 1) := gd_X12_reform_26.2.2.2.2.2.2.2.1
theorem dX12_reform_100 : decode cX12_reform 100 = .ok (.aload_n 0, 1) := gd_X12_reform_26.2.2.2.2.2.2.2.2.1
theorem dX12_reform_101 : decode cX12_reform 101 = .ok (.invokevirtual 230, 3) := gd_X12_reform_26.2.2.2.2.2.2.2.2.2
theorem gd_X12_reform_104 : decode cX12_reform 104 = .ok (.ifCond .ne (-12), 3) ∧ decode cX12_reform 107 = .ok (.iconst (-1), 1) ∧ decode cX12_reform 108 = .ok (.ireturn, 1) ∧ decode cX12_reform 118 = .ok (.bipush (-3), 2) ∧ decode cX12_reform 120 = .ok (.ireturn, 1) ∧ decode cX12_reform 186 = .ok (.aload_n 0, 1) ∧ decode cX12_reform 187 = .ok (.getfield 30, 3) ∧ decode cX12_reform 190 = .ok (.aload_n 0, 1) ∧ decode cX12_reform 191 = .ok (.getfield 33, 3) ∧ decode cX12_reform 194 = .ok (.sipush 960, 3) := by decide +kernel
theorem dX12_reform_104 : decode cX12_reform 104 = .ok (.ifCond .ne (-12), 3) := gd_X12_reform_104.1
theorem dX12_reform_107 : decode cX12_reform 107 = .ok (.iconst (-1), 1) := gd_X12_reform_104.2.1
theorem dX12_reform_108 : decode cX12_reform 108 = .ok (.ireturn, 1) := gd_X12_reform_104.2.2.1
theorem dX12_reform_118 : decode cX12_reform 118 = .ok (.bipush (-3), 2) := gd_X12_reform_104.2.2.2.1
theorem dX12_reform_120 : decode cX12_reform 120 = .ok (.ireturn, 1) := gd_X12_reform_104.2.2.2.2.1
theorem dX12_reform_186 : decode cX12_reform 186 = .ok (.aload_n 0, 1) := gd_X12_reform_104.2.2.2.2.2.1
theorem dX12_reform_187 : decode cX12_reform 187 = .ok (.getfield 30, 3) := gd_X12_reform_104.2.2.2.2.2.2.1
theorem dX12_reform_190 : decode cX12_reform 190 = .ok (.aload_n 0, 1) := gd_X12_reform_104.2.2.2.2.2.2.2.1
theorem dX12_reform_191 : decode cX12_reform 191 = .ok (.getfield 33, 3) := gd_X12_reform_104.2.2.2.2.2.2.2.2.1
theorem dX12_reform_194 : decode cX12_reform 194 = .ok (.sipush 960, 3) := gd_X12_reform_104.2.2.2.2.2.2.2.2.2
theorem gd_X12_reform_197 : decode cX12_reform 197 = .ok (.iload_n 3, 1) ∧ decode cX12_reform 198 = .ok (.iadd, 1) ∧ decode cX12_reform 199 = .ok (.sipush 160, 3) ∧ decode cX12_reform 202 = .ok (.iload_n 2, 1) ∧ decode cX12_reform 203 = .ok (.imul, 1) ∧ decode cX12_reform 204 = .ok (.iload_n 3, 1) ∧ decode cX12_reform 205 = .ok (.iadd, 1) ∧ decode cX12_reform 206 = .ok (.invokestatic 233, 3) ∧ decode cX12_reform 209 = .ok (.iinc 3 1, 3) ∧ decode cX12_reform 212 = .ok (.goto (-38), 3) := by decide +kernel
theorem dX12_reform_197 : decode cX12_reform 197 = .ok (.iload_n 3, 1) := gd_X12_reform_197.1
theorem dX12_reform_198 : decode cX12_reform 198 = .ok (.iadd, 1) := gd_X12_reform_197.2.1
theorem dX12_reform_199 : decode cX12_reform 199 = .ok (.sipush 160, 3) := gd_X12_reform_197.2.2.1
theorem dX12_reform_202 : decode cX12_reform 202 = .ok (.iload_n 2, 1) := gd_X12_reform_197.2.2.2.1
theorem dX12_reform_203 : decode cX12_reform 203 = .ok (.imul, 1) := gd_X12_reform_197.2.2.2.2.1
theorem dX12_reform_204 : decode cX12_reform 204 = .ok (.iload_n 3, 1) := gd_X12_reform_197.2.2.2.2.2.1
theorem dX12_reform_205 : decode cX12_reform 205 = .ok (.iadd, 1) := gd_X12_reform_197.2.2.2.2.2.2.1
theorem dX12_reform_206 : decode cX12_reform 206 = .ok (.invokestatic 233, 3) := gd_X12_reform_197.2.2.2.2.2.2.2.1
theorem dX12_reform_209 : decode cX12_reform 209 = .ok (.iinc 3 1, 3) := gd_X12_reform_197.2.2.2.2.2.2.2.2.1
theorem dX12_reform_212 : decode cX12_reform 212 = .ok (.goto (-38), 3) := gd_X12_reform_197.2.2.2.2.2.2.2.2.2
theorem gd_X12_reform_227 : decode cX12_reform 227 = .ok (.aload_n 0, 1) ∧ decode cX12_reform 228 = .ok (.getfield 36, 3) ∧ decode cX12_reform 231 = .ok (.bipush 40, 2) ∧ decode cX12_reform 233 = .ok (.iload_n 2, 1) ∧ decode cX12_reform 234 = .ok (.imul, 1) ∧ decode cX12_reform 235 = .ok (.iload_n 3, 1) ∧ decode cX12_reform 236 = .ok (.iadd, 1) ∧ decode cX12_reform 237 = .ok (.aload_n 0, 1) ∧ decode cX12_reform 238 = .ok (.getfield 36, 3) ∧ decode cX12_reform 241 = .ok (.sipush 240, 3) := by decide +kernel
theorem dX12_reform_227 : decode cX12_reform 227 = .ok (.aload_n 0, 1) := gd_X12_reform_227.1
theorem dX12_reform_228 : decode cX12_reform 228 = .ok (.getfield 36, 3) := gd_X12_reform_227.2.1
theorem dX12_reform_231 : decode cX12_reform 231 = .ok (.bipush 40, 2) := gd_X12_reform_227.2.2.1
theorem dX12_reform_233 : decode cX12_reform 233 = .ok (.iload_n 2, 1) := gd_X12_reform_227.2.2.2.1
theorem dX12_reform_234 : decode cX12_reform 234 = .ok (.imul, 1) := gd_X12_reform_227.2.2.2.2.1
theorem dX12_reform_235 : decode cX12_reform 235 = .ok (.iload_n 3, 1) := gd_X12_reform_227.2.2.2.2.2.1
theorem dX12_reform_236 : decode cX12_reform 236 = .ok (.iadd, 1) := gd_X12_reform_227.2.2.2.2.2.2.1
theorem dX12_reform_237 : decode cX12_reform 237 = .ok (.aload_n 0, 1) := gd_X12_reform_227.2.2.2.2.2.2.2.1
theorem dX12_reform_238 : decode cX12_reform 238 = .ok (.getfield 36, 3) := gd_X12_reform_227.2.2.2.2.2.2.2.2.1
theorem dX12_reform_241 : decode cX12_reform 241 = .ok (.sipush 240, 3) := gd_X12_reform_227.2.2.2.2.2.2.2.2.2
theorem gd_X12_reform_244 : decode cX12_reform 244 = .ok (.iload_n 3, 1) ∧ decode cX12_reform 245 = .ok (.iadd, 1) ∧ decode cX12_reform 246 = .ok (.baload, 1) ∧ decode cX12_reform 247 = .ok (.bastore, 1) ∧ decode cX12_reform 248 = .ok (.aload_n 0, 1) ∧ decode cX12_reform 249 = .ok (.getfield 40, 3) ∧ decode cX12_reform 252 = .ok (.bipush 40, 2) ∧ decode cX12_reform 254 = .ok (.iload_n 2, 1) ∧ decode cX12_reform 255 = .ok (.imul, 1) ∧ decode cX12_reform 256 = .ok (.iload_n 3, 1) := by decide +kernel
theorem dX12_reform_244 : decode cX12_reform 244 = .ok (.iload_n 3, 1) := gd_X12_reform_244.1
theorem dX12_reform_245 : decode cX12_reform 245 = .ok (.iadd, 1) := gd_X12_reform_244.2.1
theorem dX12_reform_246 : decode cX12_reform 246 = .ok (.baload, 1) := gd_X12_reform_244.2.2.1
theorem dX12_reform_247 : decode cX12_reform 247 = .ok (.bastore, 1) := gd_X12_reform_244.2.2.2.1
theorem dX12_reform_248 : decode cX12_reform 248 = .ok (.aload_n 0, 1) := gd_X12_reform_244.2.2.2.2.1
theorem dX12_reform_249 : decode cX12_reform 249 = .ok (.getfield 40, 3) := gd_X12_reform_244.2.2.2.2.2.1
theorem dX12_reform_252 : decode cX12_reform 252 = .ok (.bipush 40, 2) := gd_X12_reform_244.2.2.2.2.2.2.1
theorem dX12_reform_254 : decode cX12_reform 254 = .ok (.iload_n 2, 1) := gd_X12_reform_244.2.2.2.2.2.2.2.1
theorem dX12_reform_255 : decode cX12_reform 255 = .ok (.imul, 1) := gd_X12_reform_244.2.2.2.2.2.2.2.2.1
theorem dX12_reform_256 : decode cX12_reform 256 = .ok (.iload_n 3, 1) := gd_X12_reform_244.2.2.2.2.2.2.2.2.2
theorem gd_X12_reform_257 : decode cX12_reform 257 = .ok (.iadd, 1) ∧ decode cX12_reform 258 = .ok (.aload_n 0, 1) ∧ decode cX12_reform 259 = .ok (.getfield 40, 3) ∧ decode cX12_reform 262 = .ok (.sipush 240, 3) ∧ decode cX12_reform 265 = .ok (.iload_n 3, 1) ∧ decode cX12_reform 266 = .ok (.iadd, 1) ∧ decode cX12_reform 267 = .ok (.baload, 1) ∧ decode cX12_reform 268 = .ok (.bastore, 1) ∧ decode cX12_reform 269 = .ok (.iinc 3 1, 3) ∧ decode cX12_reform 272 = .ok (.goto (-55), 3) := by decide +kernel
theorem dX12_reform_257 : decode cX12_reform 257 = .ok (.iadd, 1) := gd_X12_reform_257.1
theorem dX12_reform_258 : decode cX12_reform 258 = .ok (.aload_n 0, 1) := gd_X12_reform_257.2.1
theorem dX12_reform_259 : decode cX12_reform 259 = .ok (.getfield 40, 3) := gd_X12_reform_257.2.2.1
theorem dX12_reform_262 : decode cX12_reform 262 = .ok (.sipush 240, 3) := gd_X12_reform_257.2.2.2.1
theorem dX12_reform_265 : decode cX12_reform 265 = .ok (.iload_n 3, 1) := gd_X12_reform_257.2.2.2.2.1
theorem dX12_reform_266 : decode cX12_reform 266 = .ok (.iadd, 1) := gd_X12_reform_257.2.2.2.2.2.1
theorem dX12_reform_267 : decode cX12_reform 267 = .ok (.baload, 1) := gd_X12_reform_257.2.2.2.2.2.2.1
theorem dX12_reform_268 : decode cX12_reform 268 = .ok (.bastore, 1) := gd_X12_reform_257.2.2.2.2.2.2.2.1
theorem dX12_reform_269 : decode cX12_reform 269 = .ok (.iinc 3 1, 3) := gd_X12_reform_257.2.2.2.2.2.2.2.2.1
theorem dX12_reform_272 : decode cX12_reform 272 = .ok (.goto (-55), 3) := gd_X12_reform_257.2.2.2.2.2.2.2.2.2
theorem gd_X12_reform_287 : decode cX12_reform 287 = .ok (.aload_n 0, 1) ∧ decode cX12_reform 288 = .ok (.getfield 43, 3) ∧ decode cX12_reform 291 = .ok (.aload_n 0, 1) ∧ decode cX12_reform 292 = .ok (.getfield 46, 3) ∧ decode cX12_reform 295 = .ok (.sipush 240, 3) ∧ decode cX12_reform 298 = .ok (.iload_n 3, 1) ∧ decode cX12_reform 299 = .ok (.iadd, 1) ∧ decode cX12_reform 300 = .ok (.bipush 40, 2) ∧ decode cX12_reform 302 = .ok (.iload_n 2, 1) ∧ decode cX12_reform 303 = .ok (.imul, 1) := by decide +kernel
theorem dX12_reform_287 : decode cX12_reform 287 = .ok (.aload_n 0, 1) := gd_X12_reform_287.1
theorem dX12_reform_288 : decode cX12_reform 288 = .ok (.getfield 43, 3) := gd_X12_reform_287.2.1
theorem dX12_reform_291 : decode cX12_reform 291 = .ok (.aload_n 0, 1) := gd_X12_reform_287.2.2.1
theorem dX12_reform_292 : decode cX12_reform 292 = .ok (.getfield 46, 3) := gd_X12_reform_287.2.2.2.1
theorem dX12_reform_295 : decode cX12_reform 295 = .ok (.sipush 240, 3) := gd_X12_reform_287.2.2.2.2.1
theorem dX12_reform_298 : decode cX12_reform 298 = .ok (.iload_n 3, 1) := gd_X12_reform_287.2.2.2.2.2.1
theorem dX12_reform_299 : decode cX12_reform 299 = .ok (.iadd, 1) := gd_X12_reform_287.2.2.2.2.2.2.1
theorem dX12_reform_300 : decode cX12_reform 300 = .ok (.bipush 40, 2) := gd_X12_reform_287.2.2.2.2.2.2.2.1
theorem dX12_reform_302 : decode cX12_reform 302 = .ok (.iload_n 2, 1) := gd_X12_reform_287.2.2.2.2.2.2.2.2.1
theorem dX12_reform_303 : decode cX12_reform 303 = .ok (.imul, 1) := gd_X12_reform_287.2.2.2.2.2.2.2.2.2
theorem gd_X12_reform_304 : decode cX12_reform 304 = .ok (.iload_n 3, 1) ∧ decode cX12_reform 305 = .ok (.iadd, 1) ∧ decode cX12_reform 306 = .ok (.invokestatic 233, 3) ∧ decode cX12_reform 309 = .ok (.iinc 3 1, 3) ∧ decode cX12_reform 312 = .ok (.goto (-35), 3) ∧ decode cX12_reform 329 = .ok (.aload_n 0, 1) ∧ decode cX12_reform 330 = .ok (.getfield 49, 3) ∧ decode cX12_reform 333 = .ok (.aload_n 0, 1) ∧ decode cX12_reform 334 = .ok (.getfield 52, 3) ∧ decode cX12_reform 337 = .ok (.sipush 480, 3) := by decide +kernel
theorem dX12_reform_304 : decode cX12_reform 304 = .ok (.iload_n 3, 1) := gd_X12_reform_304.1
theorem dX12_reform_305 : decode cX12_reform 305 = .ok (.iadd, 1) := gd_X12_reform_304.2.1
theorem dX12_reform_306 : decode cX12_reform 306 = .ok (.invokestatic 233, 3) := gd_X12_reform_304.2.2.1
theorem dX12_reform_309 : decode cX12_reform 309 = .ok (.iinc 3 1, 3) := gd_X12_reform_304.2.2.2.1
theorem dX12_reform_312 : decode cX12_reform 312 = .ok (.goto (-35), 3) := gd_X12_reform_304.2.2.2.2.1
theorem dX12_reform_329 : decode cX12_reform 329 = .ok (.aload_n 0, 1) := gd_X12_reform_304.2.2.2.2.2.1
theorem dX12_reform_330 : decode cX12_reform 330 = .ok (.getfield 49, 3) := gd_X12_reform_304.2.2.2.2.2.2.1
theorem dX12_reform_333 : decode cX12_reform 333 = .ok (.aload_n 0, 1) := gd_X12_reform_304.2.2.2.2.2.2.2.1
theorem dX12_reform_334 : decode cX12_reform 334 = .ok (.getfield 52, 3) := gd_X12_reform_304.2.2.2.2.2.2.2.2.1
theorem dX12_reform_337 : decode cX12_reform 337 = .ok (.sipush 480, 3) := gd_X12_reform_304.2.2.2.2.2.2.2.2.2
theorem gd_X12_reform_340 : decode cX12_reform 340 = .ok (.iload_n 3, 1) ∧ decode cX12_reform 341 = .ok (.iadd, 1) ∧ decode cX12_reform 342 = .ok (.bipush 80, 2) ∧ decode cX12_reform 344 = .ok (.iload_n 2, 1) ∧ decode cX12_reform 345 = .ok (.imul, 1) ∧ decode cX12_reform 346 = .ok (.iload_n 3, 1) ∧ decode cX12_reform 347 = .ok (.iadd, 1) ∧ decode cX12_reform 348 = .ok (.invokestatic 233, 3) ∧ decode cX12_reform 351 = .ok (.iinc 3 1, 3) ∧ decode cX12_reform 354 = .ok (.goto (-37), 3) := by decide +kernel
theorem dX12_reform_340 : decode cX12_reform 340 = .ok (.iload_n 3, 1) := gd_X12_reform_340.1
theorem dX12_reform_341 : decode cX12_reform 341 = .ok (.iadd, 1) := gd_X12_reform_340.2.1
theorem dX12_reform_342 : decode cX12_reform 342 = .ok (.bipush 80, 2) := gd_X12_reform_340.2.2.1
theorem dX12_reform_344 : decode cX12_reform 344 = .ok (.iload_n 2, 1) := gd_X12_reform_340.2.2.2.1
theorem dX12_reform_345 : decode cX12_reform 345 = .ok (.imul, 1) := gd_X12_reform_340.2.2.2.2.1
theorem dX12_reform_346 : decode cX12_reform 346 = .ok (.iload_n 3, 1) := gd_X12_reform_340.2.2.2.2.2.1
theorem dX12_reform_347 : decode cX12_reform 347 = .ok (.iadd, 1) := gd_X12_reform_340.2.2.2.2.2.2.1
theorem dX12_reform_348 : decode cX12_reform 348 = .ok (.invokestatic 233, 3) := gd_X12_reform_340.2.2.2.2.2.2.2.1
theorem dX12_reform_351 : decode cX12_reform 351 = .ok (.iinc 3 1, 3) := gd_X12_reform_340.2.2.2.2.2.2.2.2.1
theorem dX12_reform_354 : decode cX12_reform 354 = .ok (.goto (-37), 3) := gd_X12_reform_340.2.2.2.2.2.2.2.2.2
set_option maxHeartbeats 4000000 in
set_option maxRecDepth 100000 in
theorem bm_keyAt {p : Program} {l : Launch} {e : Env} {s : State} {m : MethodId} {args : Array Value} {below : List Frame} {meth : Method} {c : Code} {Q : State → Prop} {A : Nat → Prop} {dC : Nat → ClassId} {dI : Nat → Nat → Nat} {h0 : Nat} {kB kI kZ : ClassId} {q : Nat → Nat} {g : Nat → Int32} {F : Nat → Nat → Int32} {H : Heap} {locs : List Loc} {ls : Array Slot} (p0 : Int32) (p1 : Int32) (r : Int32) (hr : f_keyAt g F p0 p1 = some r) (hx : p.tables.exec = Jvm.exec) (hb : c.code = cX12_keyAt) (hml : c.maxLocals = 8) (hown : s.vm.findClass RX12 = some m.cls) (hts : ∀ w ∈ vmX12_keyAt, w.before args s = true) (hA : ∀ q : Nat, s.heap.size ≤ q → A q) (hK : va_K (dC, dI) vwCl (mT kB kI kZ) s) {adK adV : Nat → Nat} (hSE : SE adK adV A s) (hP : va_P (dC, dI) vwCl (mW h0 kB kI kZ q g F) H) (hD : va_D A (mW h0 kB kI kZ q g F)) (hS : va_S A s.heap H locs) (hl : lv_has ls 8 [(0, .ref h0), (1, .int p0), (2, .int p1)])
    (K : ∀ (pc : Nat) (ls : Array Slot) (rz : Int32) (H : Heap) (locs : List Loc), some rz = some r → decode cX12_keyAt pc = .ok (.ireturn, 1) → va_P (dC, dI) vwCl (mW h0 kB kI kZ q g F) H → va_D A (mW h0 kB kI kZ q g F) → va_S A s.heap H locs → W p l e ({ frames := 6, cells := 0, slots := 0, locals := 340 } : Room) s m args below meth c H locs 0 0 Q (F0 m pc ls [.int rz])) : W p l e ({ frames := 6, cells := 0, slots := 0, locals := 340 } : Room) s m args below meth c H locs 0 0 Q (F0 m 0 ls []) := by
  unfold f_keyAt at hr
  refine lv_iconst (v := 0) hx hb dX12_keyAt_0 (by decide +kernel) ?_
  refine lv_istore_n (lv' := [(3, .int 0), (0, .ref h0), (1, .int p0), (2, .int p1)]) hx hb dX12_keyAt_1 rfl hl (by decide) rfl (fun ls hl => ?_)
  refine lv_iconst (v := 0) hx hb dX12_keyAt_2 (by decide +kernel) ?_
  refine lv_istore (lv' := [(4, .int 0), (3, .int 0), (0, .ref h0), (1, .int p0), (2, .int p1)]) hx hb dX12_keyAt_3 hl (by decide) rfl (fun ls hl => ?_)
  refine lv_iconst (v := 0) hx hb dX12_keyAt_5 (by decide +kernel) ?_
  refine lv_istore (lv' := [(5, .int 0), (4, .int 0), (3, .int 0), (0, .ref h0), (1, .int p0), (2, .int p1)]) hx hb dX12_keyAt_6 hl (by decide) rfl (fun ls hl => ?_)
  have lp8 : ∀ (n8 : Nat) (y8_3 : Int32) (y8_4 : Int32) (y8_5 : Int32) (H : Heap) (locs : List Loc) (ls : Array Slot), L_keyAt_8 g F p0 p1 n8 y8_3 y8_4 y8_5 = some r → va_P (dC, dI) vwCl (mW h0 kB kI kZ q g F) H → va_D A (mW h0 kB kI kZ q g F) → va_S A s.heap H locs → lv_has ls 8 [(0, .ref h0), (1, .int p0), (2, .int p1), (3, .int y8_3), (4, .int y8_4), (5, .int y8_5)] → W p l e ({ frames := 6, cells := 0, slots := 0, locals := 340 } : Room) s m args below meth c H locs 0 0 Q (F0 m 8 ls []) := by
    intro n8
    induction n8 with
    | zero => intro y8_3 y8_4 y8_5 H locs ls hr; exact nomatch (show none = some r from hr)
    | succ n8 ih8 =>
      intro y8_3 y8_4 y8_5 H locs ls hr hP hD hS hl
      replace hr : B_keyAt_8 g F p0 p1 (L_keyAt_8 g F p0 p1 n8) y8_3 y8_4 y8_5 = some r := hr
      unfold B_keyAt_8 at hr
      refine lv_iload hx hb dX12_keyAt_8 (lv_at hl 5 rfl) ?_
      refine va_ldcS hx hb hown hSE.r9 dX12_keyAt_10 ?_
      refine va_calli (va_runV (As := []) (rest := [.int y8_5]) ⟨hx, hb, hml, hown, hts⟩ (j_length l adK adV 9 (by decide)) (cwV 0 hts gj_J0_length_8abf5_160 rfl rfl rfl (by decide +kernel) ⟨Nat.le_of_ble_eq_true rfl, Nat.le_of_ble_eq_true rfl⟩) ⟨fun a U g mk q => ⟨q.1, q.2.calling⟩, vk_recv hSE.1 (i := 9) (by decide) hS, fun U hU hW => ⟨rfl, (hSE.warm hS hU hW).nf⟩⟩ rfl rfl hl.1 rfl (lv_room (Nat.le_of_ble_eq_true rfl)) dX12_keyAt_12 ⟨Nat.le_of_ble_eq_true rfl, Nat.le_of_ble_eq_true rfl⟩) hS (fun q _ h => h.elim) (fun q h => h.elim) (fun r u t H1 locs ht hvm hw hB hz1 hk1 hS => ?_)
      subst hw
      replace hP : va_P (dC, dI) vwCl (mW h0 kB kI kZ q g F) H1 := hP.kept (fun k q hk => hk1 q.1 (hP k q hk).lt (fun h => h))
      clear hk1 hz1 ht hvm hB
      generalize H1 = H at hP hS ⊢
      refine lv_icmp_ge (tgt := 119) hx hb dX12_keyAt_15 (by decide) (fun c15 => ?_) (fun c15 => ?_)
      · replace hr := iteT c15 hr
        refine lv_iconst (v := (-1)) hx hb dX12_keyAt_119 (by decide +kernel) ?_
        exact K 120 ls _ H _ hr dX12_keyAt_120 hP hD hS
      · replace hr := iteF c15 hr
        refine va_ldcS hx hb hown hSE.r9 dX12_keyAt_18 ?_
        refine lv_iload hx hb dX12_keyAt_20 (lv_at hl 5 rfl) ?_
        replace hr := iteS hr
        obtain ⟨hi22, hr⟩ := hr
        refine va_calli (va_runV (As := [.int y8_5]) (rest := []) ⟨hx, hb, hml, hown, hts⟩ (j_charAt l adK adV 9 (by decide) y8_5 hi22) (cwV 1 hts gj_J0_charAt_5068e_166 rfl rfl rfl (by decide +kernel) ⟨Nat.le_of_ble_eq_true rfl, Nat.le_of_ble_eq_true rfl⟩) ⟨fun a U g mk q => ⟨q.1, q.2.calling⟩, vk_recv hSE.1 (i := 9) (by decide) hS, fun U hU hW => ⟨rfl, (hSE.warm hS hU hW).nf⟩⟩ rfl rfl hl.1 rfl (lv_room (Nat.le_of_ble_eq_true rfl)) dX12_keyAt_22 ⟨Nat.le_of_ble_eq_true rfl, Nat.le_of_ble_eq_true rfl⟩) hS (fun q _ h => h.elim) (fun q h => h.elim) (fun r u t H1 locs ht hvm hw hB hz1 hk1 hS => ?_)
        subst hw
        replace hP : va_P (dC, dI) vwCl (mW h0 kB kI kZ q g F) H1 := hP.kept (fun k q hk => hk1 q.1 (hP k q hk).lt (fun h => h))
        clear hk1 hz1 ht hvm hB
        generalize H1 = H at hP hS ⊢
        refine lv_bipush (v := 32) hx hb dX12_keyAt_25 (by decide +kernel) ?_
        replace hr := jnS hr
        obtain ⟨j113, hj113, hr⟩ := hr
        have Jj113 : ∀ (x113_3 : Int32) (x113_4 : Int32) (H : Heap) (locs : List Loc) (ls : Array Slot), j113 x113_3 x113_4 = some r → va_P (dC, dI) vwCl (mW h0 kB kI kZ q g F) H → va_D A (mW h0 kB kI kZ q g F) → va_S A s.heap H locs → lv_has ls 8 [(0, .ref h0), (1, .int p0), (2, .int p1), (3, .int x113_3), (4, .int x113_4), (5, .int y8_5)] → W p l e ({ frames := 6, cells := 0, slots := 0, locals := 340 } : Room) s m args below meth c H locs 0 0 Q (F0 m 113 ls []) := by
          intro x113_3 x113_4 H locs ls hr hP hD hS hl
          rw [hj113] at hr
          refine lv_iinc (v := (y8_5 + 1)) (lv' := [(5, .int (y8_5 + 1)), (0, .ref h0), (1, .int p0), (2, .int p1), (3, .int x113_3), (4, .int x113_4)]) hx hb dX12_keyAt_113 hl (k := 5) rfl rfl (by decide) rfl (fun ls hl => ?_)
          refine lv_goto (tgt := 8) hx hb dX12_keyAt_116 (by decide) ?_
          exact ih8 x113_3 x113_4 (y8_5 + 1) H _ ls hr hP hD hS (lv_sub hl [1, 2, 3, 4, 5, 0] rfl)
        refine lv_icmp_eq (tgt := 33) hx hb dX12_keyAt_27 (by decide) (fun c27 => ?_) (fun c27 => ?_)
        · replace hr := iteT c27 hr
          refine lv_iload hx hb dX12_keyAt_33 (lv_at hl 5 rfl) ?_
          refine lv_iload hx hb dX12_keyAt_35 (lv_at hl 4 rfl) ?_
          refine lv_isub hx hb dX12_keyAt_37 ?_
          refine lv_iload_n hx hb dX12_keyAt_38 rfl (lv_at hl 2 rfl) ?_
          replace hr := jnS hr
          obtain ⟨j47, hj47, hr⟩ := hr
          have Jj47 : ∀ (t47_0 : Int32) (H : Heap) (locs : List Loc) (ls : Array Slot), j47 t47_0 = some r → va_P (dC, dI) vwCl (mW h0 kB kI kZ q g F) H → va_D A (mW h0 kB kI kZ q g F) → va_S A s.heap H locs → lv_has ls 8 [(0, .ref h0), (1, .int p0), (2, .int p1), (3, .int y8_3), (4, .int y8_4), (5, .int y8_5)] → W p l e ({ frames := 6, cells := 0, slots := 0, locals := 340 } : Room) s m args below meth c H locs 0 0 Q (F0 m 47 ls [.int t47_0]) := by
            intro t47_0 H locs ls hr hP hD hS hl
            rw [hj47] at hr
            refine lv_istore (lv' := [(6, .int t47_0), (0, .ref h0), (1, .int p0), (2, .int p1), (3, .int y8_3), (4, .int y8_4), (5, .int y8_5)]) hx hb dX12_keyAt_47 hl (by decide) rfl (fun ls hl => ?_)
            refine lv_iconst (v := 0) hx hb dX12_keyAt_49 (by decide +kernel) ?_
            refine lv_istore (lv' := [(7, .int 0), (6, .int t47_0), (0, .ref h0), (1, .int p0), (2, .int p1), (3, .int y8_3), (4, .int y8_4), (5, .int y8_5)]) hx hb dX12_keyAt_50 hl (by decide) rfl (fun ls hl => ?_)
            replace hr := jnS hr
            obtain ⟨k97, hk97, hr⟩ := hr
            have Jk97 : ∀ (x97_6 : Int32) (H : Heap) (locs : List Loc) (ls : Array Slot), k97 x97_6 = some r → va_P (dC, dI) vwCl (mW h0 kB kI kZ q g F) H → va_D A (mW h0 kB kI kZ q g F) → va_S A s.heap H locs → lv_has ls 8 [(0, .ref h0), (1, .int p0), (2, .int p1), (3, .int y8_3), (5, .int y8_5), (6, .int x97_6)] → W p l e ({ frames := 6, cells := 0, slots := 0, locals := 340 } : Room) s m args below meth c H locs 0 0 Q (F0 m 97 ls []) := by
              intro x97_6 H locs ls hr hP hD hS hl
              rw [hk97] at hr
              refine lv_iload hx hb dX12_keyAt_97 (lv_at hl 5 rfl) ?_
              refine lv_if_eq (tgt := 104) hx hb dX12_keyAt_99 (by decide) (fun c99 => ?_) (fun c99 => ?_)
              · replace hr := iteT c99 hr
                refine lv_iinc (v := (y8_3 + 1)) (lv' := [(3, .int (y8_3 + 1)), (0, .ref h0), (1, .int p0), (2, .int p1), (5, .int y8_5), (6, .int x97_6)]) hx hb dX12_keyAt_104 hl (k := 3) rfl rfl (by decide) rfl (fun ls hl => ?_)
                refine lv_iload hx hb dX12_keyAt_107 (lv_at hl 4 rfl) ?_
                refine lv_iconst (v := 1) hx hb dX12_keyAt_109 (by decide +kernel) ?_
                refine lv_iadd hx hb dX12_keyAt_110 ?_
                refine lv_topi (fun x111 ex111 => ?_)
                replace hr := vlS hr x111 ex111
                clear ex111
                refine lv_istore (lv' := [(4, .int x111), (3, .int (y8_3 + 1)), (0, .ref h0), (1, .int p0), (2, .int p1), (5, .int y8_5), (6, .int x97_6)]) hx hb dX12_keyAt_111 hl (by decide) rfl (fun ls hl => ?_)
                exact Jj113 (y8_3 + 1) x111 H _ ls hr hP hD hS (lv_sub hl [2, 3, 4, 1, 0, 5] rfl)
              · replace hr := iteF c99 hr
                refine lv_iload_n hx hb dX12_keyAt_102 rfl (lv_at hl 3 rfl) ?_
                exact K 103 ls _ H _ hr dX12_keyAt_103 hP hD hS
            have lp52 : ∀ (n52 : Nat) (y52_6 : Int32) (y52_7 : Int32) (H : Heap) (locs : List Loc) (ls : Array Slot), L_keyAt_52 g F p0 p1 y8_4 k97 n52 y52_6 y52_7 = some r → va_P (dC, dI) vwCl (mW h0 kB kI kZ q g F) H → va_D A (mW h0 kB kI kZ q g F) → va_S A s.heap H locs → lv_has ls 8 [(0, .ref h0), (1, .int p0), (2, .int p1), (3, .int y8_3), (4, .int y8_4), (5, .int y8_5), (6, .int y52_6), (7, .int y52_7)] → W p l e ({ frames := 6, cells := 0, slots := 0, locals := 340 } : Room) s m args below meth c H locs 0 0 Q (F0 m 52 ls []) := by
              intro n52
              induction n52 with
              | zero => intro y52_6 y52_7 H locs ls hr; exact nomatch (show none = some r from hr)
              | succ n52 ih52 =>
                intro y52_6 y52_7 H locs ls hr hP hD hS hl
                replace hr : B_keyAt_52 g F p0 p1 y8_4 k97 (L_keyAt_52 g F p0 p1 y8_4 k97 n52) y52_6 y52_7 = some r := hr
                unfold B_keyAt_52 at hr
                refine lv_iload hx hb dX12_keyAt_52 (lv_at hl 7 rfl) ?_
                refine lv_iload_n hx hb dX12_keyAt_54 rfl (lv_at hl 2 rfl) ?_
                refine lv_icmp_ge (tgt := 97) hx hb dX12_keyAt_55 (by decide) (fun c55 => ?_) (fun c55 => ?_)
                · replace hr := iteT c55 hr
                  exact Jk97 y52_6 H _ ls hr hP hD hS (lv_sub hl [0, 1, 2, 3, 5, 6] rfl)
                · replace hr := iteF c55 hr
                  refine lv_iload hx hb dX12_keyAt_58 (lv_at hl 6 rfl) ?_
                  refine lv_if_eq (tgt := 97) hx hb dX12_keyAt_60 (by decide) (fun c60 => ?_) (fun c60 => ?_)
                  · replace hr := iteT c60 hr
                    exact Jk97 y52_6 H _ ls hr hP hD hS (lv_sub hl [0, 1, 2, 3, 5, 6] rfl)
                  · replace hr := iteF c60 hr
                    refine va_ldcS hx hb hown hSE.r9 dX12_keyAt_63 ?_
                    refine lv_iload hx hb dX12_keyAt_65 (lv_at hl 4 rfl) ?_
                    refine lv_iload hx hb dX12_keyAt_67 (lv_at hl 7 rfl) ?_
                    refine lv_iadd hx hb dX12_keyAt_69 ?_
                    replace hr := iteS hr
                    obtain ⟨hi70, hr⟩ := hr
                    refine va_calli (va_runV (As := [.int (y8_4 + y52_7)]) (rest := []) ⟨hx, hb, hml, hown, hts⟩ (j_charAt l adK adV 9 (by decide) (y8_4 + y52_7) hi70) (cwV 1 hts gj_J0_charAt_5068e_166 rfl rfl rfl (by decide +kernel) ⟨Nat.le_of_ble_eq_true rfl, Nat.le_of_ble_eq_true rfl⟩) ⟨fun a U g mk q => ⟨q.1, q.2.calling⟩, vk_recv hSE.1 (i := 9) (by decide) hS, fun U hU hW => ⟨rfl, (hSE.warm hS hU hW).nf⟩⟩ rfl rfl hl.1 rfl (lv_room (Nat.le_of_ble_eq_true rfl)) dX12_keyAt_70 ⟨Nat.le_of_ble_eq_true rfl, Nat.le_of_ble_eq_true rfl⟩) hS (fun q _ h => h.elim) (fun q h => h.elim) (fun r u t H1 locs ht hvm hw hB hz1 hk1 hS => ?_)
                    subst hw
                    replace hP : va_P (dC, dI) vwCl (mW h0 kB kI kZ q g F) H1 := hP.kept (fun k q hk => hk1 q.1 (hP k q hk).lt (fun h => h))
                    clear hk1 hz1 ht hvm hB
                    generalize H1 = H at hP hS ⊢
                    refine lv_aload_n hx hb dX12_keyAt_73 rfl (lv_at hl 0 rfl) ?_
                    refine lv_iload_n hx hb dX12_keyAt_74 rfl (lv_at hl 1 rfl) ?_
                    refine lv_iload hx hb dX12_keyAt_75 (lv_at hl 7 rfl) ?_
                    refine lv_iadd hx hb dX12_keyAt_77 ?_
                    replace hr := b1S hr
                    obtain ⟨r78z, hc78, hr⟩ := hr
                    have hFc := fr_all hD hS hA
                    refine va_calli (va_runV (As := [.int (p0 + y52_7)]) (rest := [.int (kwc 9 (Int32.toNatClampNeg (y8_4 + y52_7)))]) ⟨hx, hb, hml, hown, hts⟩ (m_see l dC dI H.size h0 kB kI kZ q g F (p0 + y52_7) r78z hc78) (cwV 1 hts gw_X12_see_170 rfl rfl rfl (by decide +kernel) ⟨Nat.le_of_ble_eq_true rfl, Nat.le_of_ble_eq_true rfl⟩) ⟨fun a U g mk q => by obtain ⟨q0, q1, qP, qK, qD⟩ := q; exact ⟨q0, q1, qP, va_K.moved (u := U) (U := U.calling g mk a) (Vm.Alike.refl U.vm) qK, qD⟩, va_recv hK hP (ci := 12) (q0 := 0) rfl rfl, fun U hU hW => ⟨rfl, by rw [hU], by rw [hU]; exact hP, va_K.moved hW.alike hK, hD.weaken (fun _ _ _ _ => trivial)⟩⟩ rfl rfl hl.1 rfl (lv_room (Nat.le_of_ble_eq_true rfl)) dX12_keyAt_78 ⟨Nat.le_of_ble_eq_true rfl, Nat.le_of_ble_eq_true rfl⟩) hS (fun q _ h => hFc q h) hFc (fun r78 u t H1 locs ht hvm hw hB hz1 hk1 hS => ?_)
                    replace hw : r78 = r78z := hw
                    subst hw
                    obtain ⟨hP1, hK1, hD1⟩ := hB
                    rw [ht] at hP1
                    obtain ⟨hP, hD⟩ := jn_all (w1 := (mW h0 kB kI kZ q g F)) hFc hP1 hD1
                    clear hFc hP1 hK1 hD1 hk1 hz1 ht hvm
                    generalize H1 = H at hP hS ⊢
                    have hP : va_P (dC, dI) vwCl (mW h0 kB kI kZ q g F) H := hP
                    have hD : va_D A (mW h0 kB kI kZ q g F) := hD
                    replace hr := jnS hr
                    obtain ⟨j89, hj89, hr⟩ := hr
                    have Jj89 : ∀ (t89_0 : Int32) (H : Heap) (locs : List Loc) (ls : Array Slot), j89 t89_0 = some r → va_P (dC, dI) vwCl (mW h0 kB kI kZ q g F) H → va_D A (mW h0 kB kI kZ q g F) → va_S A s.heap H locs → lv_has ls 8 [(0, .ref h0), (1, .int p0), (2, .int p1), (3, .int y8_3), (4, .int y8_4), (5, .int y8_5), (7, .int y52_7)] → W p l e ({ frames := 6, cells := 0, slots := 0, locals := 340 } : Room) s m args below meth c H locs 0 0 Q (F0 m 89 ls [.int t89_0]) := by
                      intro t89_0 H locs ls hr hP hD hS hl
                      rw [hj89] at hr
                      refine lv_istore (lv' := [(6, .int t89_0), (0, .ref h0), (1, .int p0), (2, .int p1), (3, .int y8_3), (4, .int y8_4), (5, .int y8_5), (7, .int y52_7)]) hx hb dX12_keyAt_89 hl (by decide) rfl (fun ls hl => ?_)
                      refine lv_iinc (v := (y52_7 + 1)) (lv' := [(7, .int (y52_7 + 1)), (6, .int t89_0), (0, .ref h0), (1, .int p0), (2, .int p1), (3, .int y8_3), (4, .int y8_4), (5, .int y8_5)]) hx hb dX12_keyAt_91 hl (k := 7) rfl rfl (by decide) rfl (fun ls hl => ?_)
                      refine lv_goto (tgt := 52) hx hb dX12_keyAt_94 (by decide) ?_
                      exact ih52 t89_0 (y52_7 + 1) H _ ls hr hP hD hS (lv_sub hl [2, 3, 4, 5, 6, 7, 1, 0] rfl)
                    refine lv_icmp_ne (tgt := 88) hx hb dX12_keyAt_81 (by decide) (fun c81 => ?_) (fun c81 => ?_)
                    · replace hr := iteF c81 hr
                      refine lv_iconst (v := 0) hx hb dX12_keyAt_88 (by decide +kernel) ?_
                      exact Jj89 0 H _ ls hr hP hD hS (lv_sub hl [0, 1, 2, 3, 4, 5, 7] rfl)
                    · replace hr := iteT c81 hr
                      refine lv_iconst (v := 1) hx hb dX12_keyAt_84 (by decide +kernel) ?_
                      refine lv_goto (tgt := 89) hx hb dX12_keyAt_85 (by decide) ?_
                      exact Jj89 1 H _ ls hr hP hD hS (lv_sub hl [0, 1, 2, 3, 4, 5, 7] rfl)
            exact lp52 NN t47_0 0 H _ ls hr hP hD hS (lv_sub hl [2, 3, 4, 5, 6, 7, 1, 0] rfl)
          refine lv_icmp_ne (tgt := 46) hx hb dX12_keyAt_39 (by decide) (fun c39 => ?_) (fun c39 => ?_)
          · replace hr := iteF c39 hr
            refine lv_iconst (v := 0) hx hb dX12_keyAt_46 (by decide +kernel) ?_
            exact Jj47 0 H _ ls hr hP hD hS (lv_sub hl [0, 1, 2, 3, 4, 5] rfl)
          · replace hr := iteT c39 hr
            refine lv_iconst (v := 1) hx hb dX12_keyAt_42 (by decide +kernel) ?_
            refine lv_goto (tgt := 47) hx hb dX12_keyAt_43 (by decide) ?_
            exact Jj47 1 H _ ls hr hP hD hS (lv_sub hl [0, 1, 2, 3, 4, 5] rfl)
        · replace hr := iteF c27 hr
          refine lv_goto (tgt := 113) hx hb dX12_keyAt_30 (by decide) ?_
          exact Jj113 y8_3 y8_4 H _ ls hr hP hD hS (lv_sub hl [0, 1, 2, 3, 4, 5] rfl)
  exact lp8 NN 0 0 0 H _ ls hr hP hD hS (lv_sub hl [3, 4, 5, 2, 1, 0] rfl)
set_option maxHeartbeats 4000000 in
set_option maxRecDepth 100000 in
theorem m_keyAt (l : Launch) (dC : Nat → ClassId) (dI : Nat → Nat → Nat) (adK adV : Nat → Nat) (sz : Nat) (h0 : Nat) (kB kI kZ : ClassId) (q : Nat → Nat) (g : Nat → Int32) (F : Nat → Nat → Int32) (p0 : Int32) (p1 : Int32) (r : Int32) (hr : f_keyAt g F p0 p1 = some r) : Met l yX12_keyAt vmX12_keyAt ({ frames := 6, cells := 0, slots := 0, locals := 340 } : Room) (va_Pc [.ref h0, .int p0, .int p1] (fun U => U.heap.size = sz ∧ va_P (dC, dI) vwCl (mW h0 kB kI kZ q g F) U.heap ∧ va_K (dC, dI) vwCl (mT kB kI kZ) U ∧ va_D (fun _ => True) (mW h0 kB kI kZ q g F) ∧ SE adK adV (va_A (mW h0 kB kI kZ q g F) sz) U)) (va_Qi (fun (rz : Int32) (_ : Unit) => rz = r) (fun _ t => va_P (dC, dI) vwCl (mW h0 kB kI kZ q g F) t.heap ∧ va_K (dC, dI) vwCl (mT kB kI kZ) t ∧ va_D (va_A (mW h0 kB kI kZ q g F) sz) (mW h0 kB kI kZ q g F)) (va_A (mW h0 kB kI kZ q g F) sz)) 0 0 (va_A (mW h0 kB kI kZ q g F) sz) := by
  refine Met.ofW (cc := cX12_keyAt) (maxL := 8) (ret := (some .int)) (by decide) rfl ?_
  intro p e s m args below meth c s₁ B hml hv
  obtain ⟨rfl, hsz, hP, hK, hD0, hSE⟩ := hv
  have hx := B.exec
  have hb := B.bytes
  have hrt := B.returns
  have hts := atoms_spec (ws := vmX12_keyAt) B.pre
  have hown : s.vm.findClass RX12 = some m.cls := findClass_of_methodNamed B.named
  subst hsz
  have hD := hD0.self (sz := s.heap.size)
  generalize hAe : va_A (mW h0 kB kI kZ q g F) s.heap.size = A at hD hSE ⊢
  have hA : ∀ q : Nat, s.heap.size ≤ q → A q := fun q h => by rw [← hAe]; exact Or.inr h
  have hS : va_S A s.heap s.heap [] := va_S.rf
  have hl := lv_entry ([.ref h0, .int p0, .int p1]) (n := 8) (Nat.le_of_ble_eq_true rfl)
  rw [lg_entry_eq]
  generalize (lg_sl ([.ref h0, .int p0, .int p1]) ++ List.replicate (8 - (lg_sl ([.ref h0, .int p0, .int p1])).length) Slot.unset).toArray = ls at hl ⊢
  exact bm_keyAt p0 p1 r hr hx hb hml hown hts hA hK hSE hP hD hS hl (fun pc ls rz H locs he hd hP hD hS => by cases he; exact W.iret (v := r) hx hb hrt (fun t ht hW => ⟨⟨r, (), rfl, rfl, by rw [ht]; exact hP, va_K.moved hW.alike hK, hD⟩, hS.F ht⟩) hS.2.2 hd)
set_option maxHeartbeats 4000000 in
set_option maxRecDepth 100000 in
theorem bm_scan {p : Program} {l : Launch} {e : Env} {s : State} {m : MethodId} {args : Array Value} {below : List Frame} {meth : Method} {c : Code} {Q : State → Prop} {A : Nat → Prop} {dC : Nat → ClassId} {dI : Nat → Nat → Nat} {h0 : Nat} {kB kI kZ : ClassId} {q : Nat → Nat} {g : Nat → Int32} {F : Nat → Nat → Int32} {H : Heap} {locs : List Loc} {ls : Array Slot} (c_g3 : Int32) (c_g4 : Int32) (c_g5 : Int32) (c_g6 : Int32) (hr : f_scan g F = some (c_g3, c_g4, c_g5, c_g6)) (hx : p.tables.exec = Jvm.exec) (hb : c.code = cX12_scan) (hml : c.maxLocals = 4) (hown : s.vm.findClass RX12 = some m.cls) (hts : ∀ w ∈ vmX12_scan, w.before args s = true) (hA : ∀ q : Nat, s.heap.size ≤ q → A q) (hK : va_K (dC, dI) vwCl (mT kB kI kZ) s) {adK adV : Nat → Nat} (hSE : SE adK adV A s) (hP : va_P (dC, dI) vwCl (mW h0 kB kI kZ q g F) H) (hD : va_D A (mW h0 kB kI kZ q g F)) (hS : va_S A s.heap H locs) (hl : lv_has ls 4 [(0, .ref h0)])
    (K : ∀ (pc : Nat) (ls : Array Slot) (c_g3z : Int32) (c_g4z : Int32) (c_g5z : Int32) (c_g6z : Int32) (H : Heap) (locs : List Loc), some (c_g3z, c_g4z, c_g5z, c_g6z) = some (c_g3, c_g4, c_g5, c_g6) → decode cX12_scan pc = .ok (.return_, 1) → va_P (dC, dI) vwCl (mW h0 kB kI kZ q (upd (upd (upd (upd g 3 c_g3z) 4 c_g4z) 5 c_g5z) 6 c_g6z) F) H → va_D A (mW h0 kB kI kZ q (upd (upd (upd (upd g 3 c_g3z) 4 c_g4z) 5 c_g5z) 6 c_g6z) F) → va_S A s.heap H locs → W p l e ({ frames := 7, cells := 0, slots := 0, locals := 367 } : Room) s m args below meth c H locs 0 0 Q (F0 m pc ls [])) : W p l e ({ frames := 7, cells := 0, slots := 0, locals := 367 } : Room) s m args below meth c H locs 0 0 Q (F0 m 0 ls []) := by
  unfold f_scan at hr
  refine lv_aload_n hx hb dX12_scan_0 rfl (lv_at hl 0 rfl) ?_
  refine va_get (D := (dC, dI)) (ci := 12) (v := .int (g 6)) (C := RX12) (T := TX12) (N := 71) hx hb hts inX12 hown hK hP 0 rfl rfl 6 (by decide) (hts (.fieldLink RX12 174 "SpellTurnerModel" "end" "I") im_66) (fun _ h9 => h9) rfl dX12_scan_1 ?_
  refine lv_istore_n (lv' := [(1, .int (g 6)), (0, .ref h0)]) hx hb dX12_scan_4 rfl hl (by decide) rfl (fun ls hl => ?_)
  replace hr := jnS hr
  obtain ⟨k31, hk31, hr⟩ := hr
  have Jk31 : ∀ (x31_1 : Int32) (H : Heap) (locs : List Loc) (ls : Array Slot), k31 x31_1 = some (c_g3, c_g4, c_g5, c_g6) → va_P (dC, dI) vwCl (mW h0 kB kI kZ q g F) H → va_D A (mW h0 kB kI kZ q g F) → va_S A s.heap H locs → lv_has ls 4 [(0, .ref h0), (1, .int x31_1)] → W p l e ({ frames := 7, cells := 0, slots := 0, locals := 367 } : Room) s m args below meth c H locs 0 0 Q (F0 m 31 ls []) := by
    intro x31_1 H locs ls hr hP hD hS hl
    rw [hk31] at hr
    refine lv_aload_n hx hb dX12_scan_31 rfl (lv_at hl 0 rfl) ?_
    refine lv_iload_n hx hb dX12_scan_32 rfl (lv_at hl 1 rfl) ?_
    refine va_put (D := (dC, dI)) (ci := 12) (v := .int x31_1) (ty := .int) (C := RX12) (T := TX12) (N := 71) hx hb hts inX12 tyX12 tyX12_ok nmX12 hown hK hP hD hS 0 rfl rfl 5 (by decide) (hts (.fieldLink RX12 177 "SpellTurnerModel" "at" "I") im_37) (fun _ h9 => h9) rfl (by decide +kernel) rfl rfl (Nat.le_of_ble_eq_true rfl) dX12_scan_33 (fun H locs hP hD hS => ?_)
    have hP : va_P (dC, dI) vwCl (mW h0 kB kI kZ q (upd g 5 x31_1) F) H := by first | exact sP_g5 hP rfl | exact sP_g5 hP upd_same | exact hP
    have hD : va_D A (mW h0 kB kI kZ q (upd g 5 x31_1) F) := by first | exact sD_g5 hD rfl | exact sD_g5 hD upd_same | exact hD
    refine lv_aload_n hx hb dX12_scan_36 rfl (lv_at hl 0 rfl) ?_
    refine lv_iload_n hx hb dX12_scan_37 rfl (lv_at hl 1 rfl) ?_
    replace hr := b1S hr
    obtain ⟨r38z, hc38, hr⟩ := hr
    have hFc := fr_all hD hS hA
    refine va_calli (va_runV (As := [.int x31_1]) (rest := []) ⟨hx, hb, hml, hown, hts⟩ (m_see l dC dI H.size h0 kB kI kZ q (upd g 5 x31_1) F x31_1 r38z hc38) (cwV 1 hts gw_X12_see_170 rfl rfl rfl (by decide +kernel) ⟨Nat.le_of_ble_eq_true rfl, Nat.le_of_ble_eq_true rfl⟩) ⟨fun a U g mk q => by obtain ⟨q0, q1, qP, qK, qD⟩ := q; exact ⟨q0, q1, qP, va_K.moved (u := U) (U := U.calling g mk a) (Vm.Alike.refl U.vm) qK, qD⟩, va_recv hK hP (ci := 12) (q0 := 0) rfl rfl, fun U hU hW => ⟨rfl, by rw [hU], by rw [hU]; exact hP, va_K.moved hW.alike hK, hD.weaken (fun _ _ _ _ => trivial)⟩⟩ rfl rfl hl.1 rfl (lv_room (Nat.le_of_ble_eq_true rfl)) dX12_scan_38 ⟨Nat.le_of_ble_eq_true rfl, Nat.le_of_ble_eq_true rfl⟩) hS (fun q _ h => hFc q h) hFc (fun r38 u t H1 locs ht hvm hw hB hz1 hk1 hS => ?_)
    replace hw : r38 = r38z := hw
    subst hw
    obtain ⟨hP1, hK1, hD1⟩ := hB
    rw [ht] at hP1
    obtain ⟨hP, hD⟩ := jn_all (w1 := (mW h0 kB kI kZ q (upd g 5 x31_1) F)) hFc hP1 hD1
    clear hFc hP1 hK1 hD1 hk1 hz1 ht hvm
    generalize H1 = H at hP hS ⊢
    have hP : va_P (dC, dI) vwCl (mW h0 kB kI kZ q (upd g 5 x31_1) F) H := hP
    have hD : va_D A (mW h0 kB kI kZ q (upd g 5 x31_1) F) := hD
    refine lv_istore_n (lv' := [(2, .int r38), (0, .ref h0), (1, .int x31_1)]) hx hb dX12_scan_41 rfl hl (by decide) rfl (fun ls hl => ?_)
    refine lv_iload_n hx hb dX12_scan_42 rfl (lv_at hl 2 rfl) ?_
    refine lv_iconst (v := 1) hx hb dX12_scan_43 (by decide +kernel) ?_
    refine lv_iadd hx hb dX12_scan_44 ?_
    refine lv_topi (fun x45 ex45 => ?_)
    replace hr := vlS hr x45 ex45
    clear ex45
    refine lv_istore_n (lv' := [(3, .int x45), (2, .int r38), (0, .ref h0), (1, .int x31_1)]) hx hb dX12_scan_45 rfl hl (by decide) rfl (fun ls hl => ?_)
    refine lv_iload_n hx hb dX12_scan_46 rfl (lv_at hl 1 rfl) ?_
    refine lv_iconst (v := (-1)) hx hb dX12_scan_47 (by decide +kernel) ?_
    replace hr := jnS hr
    obtain ⟨j190, hj190, hr⟩ := hr
    have Jj190 : ∀ (x190_3 : Int32) (c190_g3 : Int32) (c190_g4 : Int32) (H : Heap) (locs : List Loc) (ls : Array Slot), j190 x190_3 c190_g3 c190_g4 = some (c_g3, c_g4, c_g5, c_g6) → va_P (dC, dI) vwCl (mW h0 kB kI kZ q (upd (upd (upd g 3 c190_g3) 4 c190_g4) 5 x31_1) F) H → va_D A (mW h0 kB kI kZ q (upd (upd (upd g 3 c190_g3) 4 c190_g4) 5 x31_1) F) → va_S A s.heap H locs → lv_has ls 4 [(0, .ref h0), (3, .int x190_3)] → W p l e ({ frames := 7, cells := 0, slots := 0, locals := 367 } : Room) s m args below meth c H locs 0 0 Q (F0 m 190 ls []) := by
      intro x190_3 c190_g3 c190_g4 H locs ls hr hP hD hS hl
      rw [hj190] at hr
      refine lv_aload_n hx hb dX12_scan_190 rfl (lv_at hl 0 rfl) ?_
      refine lv_iload_n hx hb dX12_scan_191 rfl (lv_at hl 1 rfl) ?_
      refine va_put (D := (dC, dI)) (ci := 12) (v := .int x190_3) (ty := .int) (C := RX12) (T := TX12) (N := 71) hx hb hts inX12 tyX12 tyX12_ok nmX12 hown hK hP hD hS 0 rfl rfl 6 (by decide) (hts (.fieldLink RX12 174 "SpellTurnerModel" "end" "I") im_66) (fun _ h9 => h9) rfl (by decide +kernel) rfl rfl (Nat.le_of_ble_eq_true rfl) dX12_scan_192 (fun H locs hP hD hS => ?_)
      have hP : va_P (dC, dI) vwCl (mW h0 kB kI kZ q (upd (upd (upd (upd g 3 c190_g3) 4 c190_g4) 5 x31_1) 6 x190_3) F) H := by first | exact sP_g6 hP rfl | exact sP_g6 hP upd_same | exact hP
      have hD : va_D A (mW h0 kB kI kZ q (upd (upd (upd (upd g 3 c190_g3) 4 c190_g4) 5 x31_1) 6 x190_3) F) := by first | exact sD_g6 hD rfl | exact sD_g6 hD upd_same | exact hD
      first | exact K 195 ls _ _ _ _ H _ hr dX12_scan_195 (sP_eq (mW_cg (by repeat (first | with_reducible rfl | with_reducible refine upd_cg ?_ | refine Eq.trans ?_ (upd_id rfl))) (by repeat (first | with_reducible rfl | with_reducible refine upF_cg ?_ | refine Eq.trans ?_ (upF_id rfl)))) hP) (sD_eq (mW_cg (by repeat (first | with_reducible rfl | with_reducible refine upd_cg ?_ | refine Eq.trans ?_ (upd_id rfl))) (by repeat (first | with_reducible rfl | with_reducible refine upF_cg ?_ | refine Eq.trans ?_ (upF_id rfl)))) hD) hS | exact K 195 ls _ _ _ _ H _ hr dX12_scan_195 hP hD hS
    refine lv_icmp_ne (tgt := 61) hx hb dX12_scan_48 (by decide) (fun c48 => ?_) (fun c48 => ?_)
    · replace hr := iteF c48 hr
      refine lv_iload_n hx hb dX12_scan_61 rfl (lv_at hl 1 rfl) ?_
      replace hr := b1S hr
      obtain ⟨r62z, hc62, hr⟩ := hr
      have hFc := fr_all hD hS hA
      refine va_calli (va_runS (As := [.int r38]) (rest := []) ⟨hx, hb, hml, hown, hts⟩ (m_isSmall l dC dI H.size h0 kB kI kZ q (upd g 5 x31_1) F r38 r62z hc62) (va_cwS 1 hts gw_X12_isSmall_183 rfl rfl rfl (by decide +kernel) ⟨Nat.le_of_ble_eq_true rfl, Nat.le_of_ble_eq_true rfl⟩) ⟨fun a U g mk q => by obtain ⟨q0, q1, qP, qK, qD⟩ := q; exact ⟨q0, q1, qP, va_K.moved (u := U) (U := U.calling g mk a) (Vm.Alike.refl U.vm) qK, qD⟩, fun U hU hW => ⟨rfl, by rw [hU], by rw [hU]; exact hP, va_K.moved hW.alike hK, hD.weaken (fun _ _ _ _ => trivial)⟩⟩ rfl rfl hl.1 rfl (lv_room (Nat.le_of_ble_eq_true rfl)) dX12_scan_62 ⟨Nat.le_of_ble_eq_true rfl, Nat.le_of_ble_eq_true rfl⟩) hS (fun q _ h => hFc q h) hFc (fun r62 u t H1 locs ht hvm hw hB hz1 hk1 hS => ?_)
      replace hw : r62 = r62z := hw
      subst hw
      obtain ⟨hP1, hK1, hD1⟩ := hB
      rw [ht] at hP1
      obtain ⟨hP, hD⟩ := jn_all (w1 := (mW h0 kB kI kZ q (upd g 5 x31_1) F)) hFc hP1 hD1
      clear hFc hP1 hK1 hD1 hk1 hz1 ht hvm
      generalize H1 = H at hP hS ⊢
      have hP : va_P (dC, dI) vwCl (mW h0 kB kI kZ q (upd g 5 x31_1) F) H := hP
      have hD : va_D A (mW h0 kB kI kZ q (upd g 5 x31_1) F) := hD
      refine lv_if_eq (tgt := 117) hx hb dX12_scan_65 (by decide) (fun c65 => ?_) (fun c65 => ?_)
      · replace hr := iteT c65 hr
        refine lv_iload_n hx hb dX12_scan_117 rfl (lv_at hl 1 rfl) ?_
        refine lv_bipush (v := 39) hx hb dX12_scan_118 (by decide +kernel) ?_
        refine lv_icmp_ne (tgt := 175) hx hb dX12_scan_120 (by decide) (fun c120 => ?_) (fun c120 => ?_)
        · replace hr := iteF c120 hr
          refine lv_aload_n hx hb dX12_scan_175 rfl (lv_at hl 2 rfl) ?_
          refine lv_iload_n hx hb dX12_scan_176 rfl (lv_at hl 1 rfl) ?_
          refine lv_bipush (v := 59) hx hb dX12_scan_177 (by decide +kernel) ?_
          replace hr := jnS hr
          obtain ⟨j187, hj187, hr⟩ := hr
          have Jj187 : ∀ (t187_0 : Int32) (H : Heap) (locs : List Loc) (ls : Array Slot), j187 t187_0 = some (c_g3, c_g4, c_g5, c_g6) → va_P (dC, dI) vwCl (mW h0 kB kI kZ q (upd g 5 x31_1) F) H → va_D A (mW h0 kB kI kZ q (upd g 5 x31_1) F) → va_S A s.heap H locs → lv_has ls 4 [(0, .ref h0), (3, .int x45)] → W p l e ({ frames := 7, cells := 0, slots := 0, locals := 367 } : Room) s m args below meth c H locs 0 0 Q (F0 m 187 ls [.int t187_0, .ref h0]) := by
            intro t187_0 H locs ls hr hP hD hS hl
            rw [hj187] at hr
            refine va_put (D := (dC, dI)) (ci := 12) (v := .int t187_0) (ty := .int) (C := RX12) (T := TX12) (N := 71) hx hb hts inX12 tyX12 tyX12_ok nmX12 hown hK hP hD hS 0 rfl rfl 3 (by decide) (hts (.fieldLink RX12 180 "SpellTurnerModel" "sort" "I") im_65) (fun _ h9 => h9) rfl (by decide +kernel) rfl rfl (Nat.le_of_ble_eq_true rfl) dX12_scan_187 (fun H locs hP hD hS => ?_)
            have hP : va_P (dC, dI) vwCl (mW h0 kB kI kZ q (upd (upd g 3 t187_0) 5 x31_1) F) H := by first | exact sP_g3 hP (upd_in (by decide) rfl) | exact sP_g3 hP (upd_in (by decide) upd_same) | exact hP
            have hD : va_D A (mW h0 kB kI kZ q (upd (upd g 3 t187_0) 5 x31_1) F) := by first | exact sD_g3 hD (upd_in (by decide) rfl) | exact sD_g3 hD (upd_in (by decide) upd_same) | exact hD
            first | exact Jj190 x45 t187_0 (g 4) H _ ls hr (sP_eq (mW_cg (by repeat (first | with_reducible rfl | with_reducible refine upd_cg ?_ | refine Eq.trans ?_ (upd_id rfl))) (by repeat (first | with_reducible rfl | with_reducible refine upF_cg ?_ | refine Eq.trans ?_ (upF_id rfl)))) hP) (sD_eq (mW_cg (by repeat (first | with_reducible rfl | with_reducible refine upd_cg ?_ | refine Eq.trans ?_ (upd_id rfl))) (by repeat (first | with_reducible rfl | with_reducible refine upF_cg ?_ | refine Eq.trans ?_ (upF_id rfl)))) hD) hS (lv_sub hl [0, 1] rfl) | exact Jj190 x45 t187_0 (g 4) H _ ls hr hP hD hS (lv_sub hl [0, 1] rfl)
          refine lv_icmp_ne (tgt := 186) hx hb dX12_scan_179 (by decide) (fun c179 => ?_) (fun c179 => ?_)
          · replace hr := iteF c179 hr
            refine lv_iconst (v := 0) hx hb dX12_scan_186 (by decide +kernel) ?_
            exact Jj187 0 H _ ls hr hP hD hS (lv_sub hl [2, 0] rfl)
          · replace hr := iteT c179 hr
            refine lv_iconst (v := 3) hx hb dX12_scan_182 (by decide +kernel) ?_
            refine lv_goto (tgt := 187) hx hb dX12_scan_183 (by decide) ?_
            exact Jj187 3 H _ ls hr hP hD hS (lv_sub hl [2, 0] rfl)
        · replace hr := iteT c120 hr
          replace hr := jnS hr
          obtain ⟨k140, hk140, hr⟩ := hr
          have Jk140 : ∀ (x140_3 : Int32) (H : Heap) (locs : List Loc) (ls : Array Slot), k140 x140_3 = some (c_g3, c_g4, c_g5, c_g6) → va_P (dC, dI) vwCl (mW h0 kB kI kZ q (upd g 5 x31_1) F) H → va_D A (mW h0 kB kI kZ q (upd g 5 x31_1) F) → va_S A s.heap H locs → lv_has ls 4 [(0, .ref h0), (1, .int x31_1), (3, .int x140_3)] → W p l e ({ frames := 7, cells := 0, slots := 0, locals := 367 } : Room) s m args below meth c H locs 0 0 Q (F0 m 140 ls []) := by
            intro x140_3 H locs ls hr hP hD hS hl
            rw [hk140] at hr
            refine lv_aload_n hx hb dX12_scan_140 rfl (lv_at hl 0 rfl) ?_
            refine lv_aload_n hx hb dX12_scan_141 rfl (lv_at hl 0 rfl) ?_
            refine lv_iload_n hx hb dX12_scan_142 rfl (lv_at hl 2 rfl) ?_
            replace hr := b1S hr
            obtain ⟨r143z, hc143, hr⟩ := hr
            have hFc := fr_all hD hS hA
            refine va_calli (va_runV (As := [.int x140_3]) (rest := [.ref h0]) ⟨hx, hb, hml, hown, hts⟩ (m_see l dC dI H.size h0 kB kI kZ q (upd g 5 x31_1) F x140_3 r143z hc143) (cwV 1 hts gw_X12_see_170 rfl rfl rfl (by decide +kernel) ⟨Nat.le_of_ble_eq_true rfl, Nat.le_of_ble_eq_true rfl⟩) ⟨fun a U g mk q => by obtain ⟨q0, q1, qP, qK, qD⟩ := q; exact ⟨q0, q1, qP, va_K.moved (u := U) (U := U.calling g mk a) (Vm.Alike.refl U.vm) qK, qD⟩, va_recv hK hP (ci := 12) (q0 := 0) rfl rfl, fun U hU hW => ⟨rfl, by rw [hU], by rw [hU]; exact hP, va_K.moved hW.alike hK, hD.weaken (fun _ _ _ _ => trivial)⟩⟩ rfl rfl hl.1 rfl (lv_room (Nat.le_of_ble_eq_true rfl)) dX12_scan_143 ⟨Nat.le_of_ble_eq_true rfl, Nat.le_of_ble_eq_true rfl⟩) hS (fun q _ h => hFc q h) hFc (fun r143 u t H1 locs ht hvm hw hB hz1 hk1 hS => ?_)
            replace hw : r143 = r143z := hw
            subst hw
            obtain ⟨hP1, hK1, hD1⟩ := hB
            rw [ht] at hP1
            obtain ⟨hP, hD⟩ := jn_all (w1 := (mW h0 kB kI kZ q (upd g 5 x31_1) F)) hFc hP1 hD1
            clear hFc hP1 hK1 hD1 hk1 hz1 ht hvm
            generalize H1 = H at hP hS ⊢
            have hP : va_P (dC, dI) vwCl (mW h0 kB kI kZ q (upd g 5 x31_1) F) H := hP
            have hD : va_D A (mW h0 kB kI kZ q (upd g 5 x31_1) F) := hD
            refine lv_bipush (v := 39) hx hb dX12_scan_146 (by decide +kernel) ?_
            replace hr := jnS hr
            obtain ⟨j166, hj166, hr⟩ := hr
            have Jj166 : ∀ (t166_0 : Int32) (H : Heap) (locs : List Loc) (ls : Array Slot), j166 t166_0 = some (c_g3, c_g4, c_g5, c_g6) → va_P (dC, dI) vwCl (mW h0 kB kI kZ q (upd g 5 x31_1) F) H → va_D A (mW h0 kB kI kZ q (upd g 5 x31_1) F) → va_S A s.heap H locs → lv_has ls 4 [(0, .ref h0), (3, .int x140_3)] → W p l e ({ frames := 7, cells := 0, slots := 0, locals := 367 } : Room) s m args below meth c H locs 0 0 Q (F0 m 166 ls [.int t166_0, .ref h0]) := by
              intro t166_0 H locs ls hr hP hD hS hl
              rw [hj166] at hr
              refine va_put (D := (dC, dI)) (ci := 12) (v := .int t166_0) (ty := .int) (C := RX12) (T := TX12) (N := 71) hx hb hts inX12 tyX12 tyX12_ok nmX12 hown hK hP hD hS 0 rfl rfl 3 (by decide) (hts (.fieldLink RX12 180 "SpellTurnerModel" "sort" "I") im_65) (fun _ h9 => h9) rfl (by decide +kernel) rfl rfl (Nat.le_of_ble_eq_true rfl) dX12_scan_166 (fun H locs hP hD hS => ?_)
              have hP : va_P (dC, dI) vwCl (mW h0 kB kI kZ q (upd (upd g 3 t166_0) 5 x31_1) F) H := by first | exact sP_g3 hP (upd_in (by decide) rfl) | exact sP_g3 hP (upd_in (by decide) upd_same) | exact hP
              have hD : va_D A (mW h0 kB kI kZ q (upd (upd g 3 t166_0) 5 x31_1) F) := by first | exact sD_g3 hD (upd_in (by decide) rfl) | exact sD_g3 hD (upd_in (by decide) upd_same) | exact hD
              refine lv_iinc (v := (x140_3 + 1)) (lv' := [(3, .int (x140_3 + 1)), (0, .ref h0)]) hx hb dX12_scan_169 hl (k := 1) rfl rfl (by decide) rfl (fun ls hl => ?_)
              refine lv_goto (tgt := 190) hx hb dX12_scan_172 (by decide) ?_
              first | exact Jj190 (x140_3 + 1) t166_0 (g 4) H _ ls hr (sP_eq (mW_cg (by repeat (first | with_reducible rfl | with_reducible refine upd_cg ?_ | refine Eq.trans ?_ (upd_id rfl))) (by repeat (first | with_reducible rfl | with_reducible refine upF_cg ?_ | refine Eq.trans ?_ (upF_id rfl)))) hP) (sD_eq (mW_cg (by repeat (first | with_reducible rfl | with_reducible refine upd_cg ?_ | refine Eq.trans ?_ (upd_id rfl))) (by repeat (first | with_reducible rfl | with_reducible refine upF_cg ?_ | refine Eq.trans ?_ (upF_id rfl)))) hD) hS (lv_sub hl [1, 0] rfl) | exact Jj190 (x140_3 + 1) t166_0 (g 4) H _ ls hr hP hD hS (lv_sub hl [1, 0] rfl)
            replace hr := jnS hr
            obtain ⟨j165, hj165, hr⟩ := hr
            have Jj165 : ∀ (H : Heap) (locs : List Loc) (ls : Array Slot), j165 () = some (c_g3, c_g4, c_g5, c_g6) → va_P (dC, dI) vwCl (mW h0 kB kI kZ q (upd g 5 x31_1) F) H → va_D A (mW h0 kB kI kZ q (upd g 5 x31_1) F) → va_S A s.heap H locs → lv_has ls 4 [(0, .ref h0), (3, .int x140_3)] → W p l e ({ frames := 7, cells := 0, slots := 0, locals := 367 } : Room) s m args below meth c H locs 0 0 Q (F0 m 165 ls [.ref h0]) := by
              intro H locs ls hr hP hD hS hl
              rw [hj165] at hr
              refine lv_iconst (v := 0) hx hb dX12_scan_165 (by decide +kernel) ?_
              exact Jj166 0 H _ ls hr hP hD hS (lv_sub hl [0, 1] rfl)
            refine lv_icmp_ne (tgt := 165) hx hb dX12_scan_148 (by decide) (fun c148 => ?_) (fun c148 => ?_)
            · replace hr := iteF c148 hr
              exact Jj165 H _ ls hr hP hD hS (lv_sub hl [0, 2] rfl)
            · replace hr := iteT c148 hr
              refine lv_iload_n hx hb dX12_scan_151 rfl (lv_at hl 2 rfl) ?_
              refine lv_iload_n hx hb dX12_scan_152 rfl (lv_at hl 1 rfl) ?_
              refine lv_isub hx hb dX12_scan_153 ?_
              refine lv_iconst (v := 1) hx hb dX12_scan_154 (by decide +kernel) ?_
              refine lv_isub hx hb dX12_scan_155 ?_
              refine lv_bipush (v := 16) hx hb dX12_scan_156 (by decide +kernel) ?_
              refine lv_icmp_gt (tgt := 165) hx hb dX12_scan_158 (by decide) (fun c158 => ?_) (fun c158 => ?_)
              · replace hr := iteT c158 hr
                exact Jj165 H _ ls hr hP hD hS (lv_sub hl [0, 2] rfl)
              · replace hr := iteF c158 hr
                refine lv_iconst (v := 2) hx hb dX12_scan_161 (by decide +kernel) ?_
                refine lv_goto (tgt := 166) hx hb dX12_scan_162 (by decide) ?_
                exact Jj166 2 H _ ls hr hP hD hS (lv_sub hl [0, 2] rfl)
          have lp123 : ∀ (n123 : Nat) (y123_3 : Int32) (H : Heap) (locs : List Loc) (ls : Array Slot), L_scan_123 g F x31_1 k140 n123 y123_3 = some (c_g3, c_g4, c_g5, c_g6) → va_P (dC, dI) vwCl (mW h0 kB kI kZ q (upd g 5 x31_1) F) H → va_D A (mW h0 kB kI kZ q (upd g 5 x31_1) F) → va_S A s.heap H locs → lv_has ls 4 [(0, .ref h0), (1, .int x31_1), (3, .int y123_3)] → W p l e ({ frames := 7, cells := 0, slots := 0, locals := 367 } : Room) s m args below meth c H locs 0 0 Q (F0 m 123 ls []) := by
            intro n123
            induction n123 with
            | zero => intro y123_3 H locs ls hr; exact nomatch (show none = some (c_g3, c_g4, c_g5, c_g6) from hr)
            | succ n123 ih123 =>
              intro y123_3 H locs ls hr hP hD hS hl
              replace hr : B_scan_123 g F x31_1 k140 (L_scan_123 g F x31_1 k140 n123) y123_3 = some (c_g3, c_g4, c_g5, c_g6) := hr
              unfold B_scan_123 at hr
              refine lv_aload_n hx hb dX12_scan_123 rfl (lv_at hl 0 rfl) ?_
              refine lv_iload_n hx hb dX12_scan_124 rfl (lv_at hl 2 rfl) ?_
              replace hr := b1S hr
              obtain ⟨r125z, hc125, hr⟩ := hr
              have hFc := fr_all hD hS hA
              refine va_calli (va_runV (As := [.int y123_3]) (rest := []) ⟨hx, hb, hml, hown, hts⟩ (m_see l dC dI H.size h0 kB kI kZ q (upd g 5 x31_1) F y123_3 r125z hc125) (cwV 1 hts gw_X12_see_170 rfl rfl rfl (by decide +kernel) ⟨Nat.le_of_ble_eq_true rfl, Nat.le_of_ble_eq_true rfl⟩) ⟨fun a U g mk q => by obtain ⟨q0, q1, qP, qK, qD⟩ := q; exact ⟨q0, q1, qP, va_K.moved (u := U) (U := U.calling g mk a) (Vm.Alike.refl U.vm) qK, qD⟩, va_recv hK hP (ci := 12) (q0 := 0) rfl rfl, fun U hU hW => ⟨rfl, by rw [hU], by rw [hU]; exact hP, va_K.moved hW.alike hK, hD.weaken (fun _ _ _ _ => trivial)⟩⟩ rfl rfl hl.1 rfl (lv_room (Nat.le_of_ble_eq_true rfl)) dX12_scan_125 ⟨Nat.le_of_ble_eq_true rfl, Nat.le_of_ble_eq_true rfl⟩) hS (fun q _ h => hFc q h) hFc (fun r125 u t H1 locs ht hvm hw hB hz1 hk1 hS => ?_)
              replace hw : r125 = r125z := hw
              subst hw
              obtain ⟨hP1, hK1, hD1⟩ := hB
              rw [ht] at hP1
              obtain ⟨hP, hD⟩ := jn_all (w1 := (mW h0 kB kI kZ q (upd g 5 x31_1) F)) hFc hP1 hD1
              clear hFc hP1 hK1 hD1 hk1 hz1 ht hvm
              generalize H1 = H at hP hS ⊢
              have hP : va_P (dC, dI) vwCl (mW h0 kB kI kZ q (upd g 5 x31_1) F) H := hP
              have hD : va_D A (mW h0 kB kI kZ q (upd g 5 x31_1) F) := hD
              replace hr := b1S hr
              obtain ⟨r128z, hc128, hr⟩ := hr
              have hFc := fr_all hD hS hA
              refine va_calli (va_runS (As := [.int r125]) (rest := []) ⟨hx, hb, hml, hown, hts⟩ (m_isSmall l dC dI H.size h0 kB kI kZ q (upd g 5 x31_1) F r125 r128z hc128) (va_cwS 1 hts gw_X12_isSmall_183 rfl rfl rfl (by decide +kernel) ⟨Nat.le_of_ble_eq_true rfl, Nat.le_of_ble_eq_true rfl⟩) ⟨fun a U g mk q => by obtain ⟨q0, q1, qP, qK, qD⟩ := q; exact ⟨q0, q1, qP, va_K.moved (u := U) (U := U.calling g mk a) (Vm.Alike.refl U.vm) qK, qD⟩, fun U hU hW => ⟨rfl, by rw [hU], by rw [hU]; exact hP, va_K.moved hW.alike hK, hD.weaken (fun _ _ _ _ => trivial)⟩⟩ rfl rfl hl.1 rfl (lv_room (Nat.le_of_ble_eq_true rfl)) dX12_scan_128 ⟨Nat.le_of_ble_eq_true rfl, Nat.le_of_ble_eq_true rfl⟩) hS (fun q _ h => hFc q h) hFc (fun r128 u t H1 locs ht hvm hw hB hz1 hk1 hS => ?_)
              replace hw : r128 = r128z := hw
              subst hw
              obtain ⟨hP1, hK1, hD1⟩ := hB
              rw [ht] at hP1
              obtain ⟨hP, hD⟩ := jn_all (w1 := (mW h0 kB kI kZ q (upd g 5 x31_1) F)) hFc hP1 hD1
              clear hFc hP1 hK1 hD1 hk1 hz1 ht hvm
              generalize H1 = H at hP hS ⊢
              have hP : va_P (dC, dI) vwCl (mW h0 kB kI kZ q (upd g 5 x31_1) F) H := hP
              have hD : va_D A (mW h0 kB kI kZ q (upd g 5 x31_1) F) := hD
              refine lv_if_eq (tgt := 140) hx hb dX12_scan_131 (by decide) (fun c131 => ?_) (fun c131 => ?_)
              · replace hr := iteT c131 hr
                exact Jk140 y123_3 H _ ls hr hP hD hS (lv_sub hl [0, 1, 2] rfl)
              · replace hr := iteF c131 hr
                refine lv_iinc (v := (y123_3 + 1)) (lv' := [(3, .int (y123_3 + 1)), (0, .ref h0), (1, .int x31_1)]) hx hb dX12_scan_134 hl (k := 2) rfl rfl (by decide) rfl (fun ls hl => ?_)
                refine lv_goto (tgt := 123) hx hb dX12_scan_137 (by decide) ?_
                exact ih123 (y123_3 + 1) H _ ls hr hP hD hS (lv_sub hl [1, 2, 0] rfl)
          exact lp123 NN x45 H _ ls hr hP hD hS (lv_sub hl [2, 3, 0] rfl)
      · replace hr := iteF c65 hr
        replace hr := jnS hr
        obtain ⟨k85, hk85, hr⟩ := hr
        have Jk85 : ∀ (x85_3 : Int32) (H : Heap) (locs : List Loc) (ls : Array Slot), k85 x85_3 = some (c_g3, c_g4, c_g5, c_g6) → va_P (dC, dI) vwCl (mW h0 kB kI kZ q (upd g 5 x31_1) F) H → va_D A (mW h0 kB kI kZ q (upd g 5 x31_1) F) → va_S A s.heap H locs → lv_has ls 4 [(0, .ref h0), (1, .int x31_1), (3, .int x85_3)] → W p l e ({ frames := 7, cells := 0, slots := 0, locals := 367 } : Room) s m args below meth c H locs 0 0 Q (F0 m 85 ls []) := by
          intro x85_3 H locs ls hr hP hD hS hl
          rw [hk85] at hr
          refine lv_aload_n hx hb dX12_scan_85 rfl (lv_at hl 0 rfl) ?_
          refine lv_aload_n hx hb dX12_scan_86 rfl (lv_at hl 0 rfl) ?_
          refine lv_iload_n hx hb dX12_scan_87 rfl (lv_at hl 1 rfl) ?_
          refine lv_iload_n hx hb dX12_scan_88 rfl (lv_at hl 2 rfl) ?_
          refine lv_iload_n hx hb dX12_scan_89 rfl (lv_at hl 1 rfl) ?_
          refine lv_isub hx hb dX12_scan_90 ?_
          replace hr := b1S hr
          obtain ⟨r91z, hc91, hr⟩ := hr
          have hFc := fr_all hD hS hA
          refine va_calli (va_runV (As := [.int x31_1, .int (x85_3 - x31_1)]) (rest := [.ref h0]) ⟨hx, hb, hml, hown, hts⟩ (m_keyAt l dC dI adK adV H.size h0 kB kI kZ q (upd g 5 x31_1) F x31_1 (x85_3 - x31_1) r91z hc91) (cwV 2 hts gw_X12_keyAt_187 rfl rfl rfl (by decide +kernel) ⟨Nat.le_of_ble_eq_true rfl, Nat.le_of_ble_eq_true rfl⟩) ⟨fun a U g mk q => by obtain ⟨q0, q1, qP, qK, qD, qS⟩ := q; exact ⟨q0, q1, qP, va_K.moved (u := U) (U := U.calling g mk a) (Vm.Alike.refl U.vm) qK, qD, qS.calling⟩, va_recv hK hP (ci := 12) (q0 := 0) rfl rfl, fun U hU hW => ⟨rfl, by rw [hU], by rw [hU]; exact hP, va_K.moved hW.alike hK, hD.weaken (fun _ _ _ _ => trivial), (hSE.warm hS hU hW).narrow hFc⟩⟩ rfl rfl hl.1 rfl (lv_room (Nat.le_of_ble_eq_true rfl)) dX12_scan_91 ⟨Nat.le_of_ble_eq_true rfl, Nat.le_of_ble_eq_true rfl⟩) hS (fun q _ h => hFc q h) hFc (fun r91 u t H1 locs ht hvm hw hB hz1 hk1 hS => ?_)
          replace hw : r91 = r91z := hw
          subst hw
          obtain ⟨hP1, hK1, hD1⟩ := hB
          rw [ht] at hP1
          obtain ⟨hP, hD⟩ := jn_all (w1 := (mW h0 kB kI kZ q (upd g 5 x31_1) F)) hFc hP1 hD1
          clear hFc hP1 hK1 hD1 hk1 hz1 ht hvm
          generalize H1 = H at hP hS ⊢
          have hP : va_P (dC, dI) vwCl (mW h0 kB kI kZ q (upd g 5 x31_1) F) H := hP
          have hD : va_D A (mW h0 kB kI kZ q (upd g 5 x31_1) F) := hD
          refine va_put (D := (dC, dI)) (ci := 12) (v := .int r91) (ty := .int) (C := RX12) (T := TX12) (N := 71) hx hb hts inX12 tyX12 tyX12_ok nmX12 hown hK hP hD hS 0 rfl rfl 4 (by decide) (hts (.fieldLink RX12 191 "SpellTurnerModel" "what" "I") im_252) (fun _ h9 => h9) rfl (by decide +kernel) rfl rfl (Nat.le_of_ble_eq_true rfl) dX12_scan_94 (fun H locs hP hD hS => ?_)
          have hP : va_P (dC, dI) vwCl (mW h0 kB kI kZ q (upd (upd g 4 r91) 5 x31_1) F) H := by first | exact sP_g4 hP (upd_in (by decide) rfl) | exact sP_g4 hP (upd_in (by decide) upd_same) | exact hP
          have hD : va_D A (mW h0 kB kI kZ q (upd (upd g 4 r91) 5 x31_1) F) := by first | exact sD_g4 hD (upd_in (by decide) rfl) | exact sD_g4 hD (upd_in (by decide) upd_same) | exact hD
          refine lv_aload_n hx hb dX12_scan_97 rfl (lv_at hl 0 rfl) ?_
          refine lv_aload_n hx hb dX12_scan_98 rfl (lv_at hl 0 rfl) ?_
          refine va_get (D := (dC, dI)) (ci := 12) (v := .int r91) (C := RX12) (T := TX12) (N := 71) hx hb hts inX12 hown hK hP 0 rfl rfl 4 (by decide) (hts (.fieldLink RX12 191 "SpellTurnerModel" "what" "I") im_252) (fun _ h9 => h9) rfl dX12_scan_99 ?_
          refine lv_iconst (v := (-1)) hx hb dX12_scan_102 (by decide +kernel) ?_
          replace hr := jnS hr
          obtain ⟨j111, hj111, hr⟩ := hr
          have Jj111 : ∀ (t111_0 : Int32) (H : Heap) (locs : List Loc) (ls : Array Slot), j111 t111_0 = some (c_g3, c_g4, c_g5, c_g6) → va_P (dC, dI) vwCl (mW h0 kB kI kZ q (upd (upd g 4 r91) 5 x31_1) F) H → va_D A (mW h0 kB kI kZ q (upd (upd g 4 r91) 5 x31_1) F) → va_S A s.heap H locs → lv_has ls 4 [(0, .ref h0), (3, .int x85_3)] → W p l e ({ frames := 7, cells := 0, slots := 0, locals := 367 } : Room) s m args below meth c H locs 0 0 Q (F0 m 111 ls [.int t111_0, .ref h0]) := by
            intro t111_0 H locs ls hr hP hD hS hl
            rw [hj111] at hr
            refine va_put (D := (dC, dI)) (ci := 12) (v := .int t111_0) (ty := .int) (C := RX12) (T := TX12) (N := 71) hx hb hts inX12 tyX12 tyX12_ok nmX12 hown hK hP hD hS 0 rfl rfl 3 (by decide) (hts (.fieldLink RX12 180 "SpellTurnerModel" "sort" "I") im_65) (fun _ h9 => h9) rfl (by decide +kernel) rfl rfl (Nat.le_of_ble_eq_true rfl) dX12_scan_111 (fun H locs hP hD hS => ?_)
            have hP : va_P (dC, dI) vwCl (mW h0 kB kI kZ q (upd (upd (upd g 3 t111_0) 4 r91) 5 x31_1) F) H := by first | exact sP_g3 hP (upd_in (by decide) (upd_in (by decide) rfl)) | exact sP_g3 hP (upd_in (by decide) (upd_in (by decide) upd_same)) | exact hP
            have hD : va_D A (mW h0 kB kI kZ q (upd (upd (upd g 3 t111_0) 4 r91) 5 x31_1) F) := by first | exact sD_g3 hD (upd_in (by decide) (upd_in (by decide) rfl)) | exact sD_g3 hD (upd_in (by decide) (upd_in (by decide) upd_same)) | exact hD
            refine lv_goto (tgt := 190) hx hb dX12_scan_114 (by decide) ?_
            exact Jj190 x85_3 t111_0 r91 H _ ls hr hP hD hS (lv_sub hl [0, 1] rfl)
          refine lv_icmp_ne (tgt := 110) hx hb dX12_scan_103 (by decide) (fun c103 => ?_) (fun c103 => ?_)
          · replace hr := iteF c103 hr
            refine lv_iconst (v := 1) hx hb dX12_scan_110 (by decide +kernel) ?_
            exact Jj111 1 H _ ls hr hP hD hS (lv_sub hl [0, 2] rfl)
          · replace hr := iteT c103 hr
            refine lv_iconst (v := 0) hx hb dX12_scan_106 (by decide +kernel) ?_
            refine lv_goto (tgt := 111) hx hb dX12_scan_107 (by decide) ?_
            exact Jj111 0 H _ ls hr hP hD hS (lv_sub hl [0, 2] rfl)
        have lp68 : ∀ (n68 : Nat) (y68_3 : Int32) (H : Heap) (locs : List Loc) (ls : Array Slot), L_scan_68 g F x31_1 k85 n68 y68_3 = some (c_g3, c_g4, c_g5, c_g6) → va_P (dC, dI) vwCl (mW h0 kB kI kZ q (upd g 5 x31_1) F) H → va_D A (mW h0 kB kI kZ q (upd g 5 x31_1) F) → va_S A s.heap H locs → lv_has ls 4 [(0, .ref h0), (1, .int x31_1), (3, .int y68_3)] → W p l e ({ frames := 7, cells := 0, slots := 0, locals := 367 } : Room) s m args below meth c H locs 0 0 Q (F0 m 68 ls []) := by
          intro n68
          induction n68 with
          | zero => intro y68_3 H locs ls hr; exact nomatch (show none = some (c_g3, c_g4, c_g5, c_g6) from hr)
          | succ n68 ih68 =>
            intro y68_3 H locs ls hr hP hD hS hl
            replace hr : B_scan_68 g F x31_1 k85 (L_scan_68 g F x31_1 k85 n68) y68_3 = some (c_g3, c_g4, c_g5, c_g6) := hr
            unfold B_scan_68 at hr
            refine lv_aload_n hx hb dX12_scan_68 rfl (lv_at hl 0 rfl) ?_
            refine lv_iload_n hx hb dX12_scan_69 rfl (lv_at hl 2 rfl) ?_
            replace hr := b1S hr
            obtain ⟨r70z, hc70, hr⟩ := hr
            have hFc := fr_all hD hS hA
            refine va_calli (va_runV (As := [.int y68_3]) (rest := []) ⟨hx, hb, hml, hown, hts⟩ (m_see l dC dI H.size h0 kB kI kZ q (upd g 5 x31_1) F y68_3 r70z hc70) (cwV 1 hts gw_X12_see_170 rfl rfl rfl (by decide +kernel) ⟨Nat.le_of_ble_eq_true rfl, Nat.le_of_ble_eq_true rfl⟩) ⟨fun a U g mk q => by obtain ⟨q0, q1, qP, qK, qD⟩ := q; exact ⟨q0, q1, qP, va_K.moved (u := U) (U := U.calling g mk a) (Vm.Alike.refl U.vm) qK, qD⟩, va_recv hK hP (ci := 12) (q0 := 0) rfl rfl, fun U hU hW => ⟨rfl, by rw [hU], by rw [hU]; exact hP, va_K.moved hW.alike hK, hD.weaken (fun _ _ _ _ => trivial)⟩⟩ rfl rfl hl.1 rfl (lv_room (Nat.le_of_ble_eq_true rfl)) dX12_scan_70 ⟨Nat.le_of_ble_eq_true rfl, Nat.le_of_ble_eq_true rfl⟩) hS (fun q _ h => hFc q h) hFc (fun r70 u t H1 locs ht hvm hw hB hz1 hk1 hS => ?_)
            replace hw : r70 = r70z := hw
            subst hw
            obtain ⟨hP1, hK1, hD1⟩ := hB
            rw [ht] at hP1
            obtain ⟨hP, hD⟩ := jn_all (w1 := (mW h0 kB kI kZ q (upd g 5 x31_1) F)) hFc hP1 hD1
            clear hFc hP1 hK1 hD1 hk1 hz1 ht hvm
            generalize H1 = H at hP hS ⊢
            have hP : va_P (dC, dI) vwCl (mW h0 kB kI kZ q (upd g 5 x31_1) F) H := hP
            have hD : va_D A (mW h0 kB kI kZ q (upd g 5 x31_1) F) := hD
            replace hr := b1S hr
            obtain ⟨r73z, hc73, hr⟩ := hr
            have hFc := fr_all hD hS hA
            refine va_calli (va_runS (As := [.int r70]) (rest := []) ⟨hx, hb, hml, hown, hts⟩ (m_isSmall l dC dI H.size h0 kB kI kZ q (upd g 5 x31_1) F r70 r73z hc73) (va_cwS 1 hts gw_X12_isSmall_183 rfl rfl rfl (by decide +kernel) ⟨Nat.le_of_ble_eq_true rfl, Nat.le_of_ble_eq_true rfl⟩) ⟨fun a U g mk q => by obtain ⟨q0, q1, qP, qK, qD⟩ := q; exact ⟨q0, q1, qP, va_K.moved (u := U) (U := U.calling g mk a) (Vm.Alike.refl U.vm) qK, qD⟩, fun U hU hW => ⟨rfl, by rw [hU], by rw [hU]; exact hP, va_K.moved hW.alike hK, hD.weaken (fun _ _ _ _ => trivial)⟩⟩ rfl rfl hl.1 rfl (lv_room (Nat.le_of_ble_eq_true rfl)) dX12_scan_73 ⟨Nat.le_of_ble_eq_true rfl, Nat.le_of_ble_eq_true rfl⟩) hS (fun q _ h => hFc q h) hFc (fun r73 u t H1 locs ht hvm hw hB hz1 hk1 hS => ?_)
            replace hw : r73 = r73z := hw
            subst hw
            obtain ⟨hP1, hK1, hD1⟩ := hB
            rw [ht] at hP1
            obtain ⟨hP, hD⟩ := jn_all (w1 := (mW h0 kB kI kZ q (upd g 5 x31_1) F)) hFc hP1 hD1
            clear hFc hP1 hK1 hD1 hk1 hz1 ht hvm
            generalize H1 = H at hP hS ⊢
            have hP : va_P (dC, dI) vwCl (mW h0 kB kI kZ q (upd g 5 x31_1) F) H := hP
            have hD : va_D A (mW h0 kB kI kZ q (upd g 5 x31_1) F) := hD
            refine lv_if_eq (tgt := 85) hx hb dX12_scan_76 (by decide) (fun c76 => ?_) (fun c76 => ?_)
            · replace hr := iteT c76 hr
              exact Jk85 y68_3 H _ ls hr hP hD hS (lv_sub hl [0, 1, 2] rfl)
            · replace hr := iteF c76 hr
              refine lv_iinc (v := (y68_3 + 1)) (lv' := [(3, .int (y68_3 + 1)), (0, .ref h0), (1, .int x31_1)]) hx hb dX12_scan_79 hl (k := 2) rfl rfl (by decide) rfl (fun ls hl => ?_)
              refine lv_goto (tgt := 68) hx hb dX12_scan_82 (by decide) ?_
              exact ih68 (y68_3 + 1) H _ ls hr hP hD hS (lv_sub hl [1, 2, 0] rfl)
        exact lp68 NN x45 H _ ls hr hP hD hS (lv_sub hl [2, 3, 0] rfl)
    · replace hr := iteT c48 hr
      refine lv_aload_n hx hb dX12_scan_51 rfl (lv_at hl 2 rfl) ?_
      refine lv_iconst (v := 4) hx hb dX12_scan_52 (by decide +kernel) ?_
      refine va_put (D := (dC, dI)) (ci := 12) (v := .int 4) (ty := .int) (C := RX12) (T := TX12) (N := 71) hx hb hts inX12 tyX12 tyX12_ok nmX12 hown hK hP hD hS 0 rfl rfl 3 (by decide) (hts (.fieldLink RX12 180 "SpellTurnerModel" "sort" "I") im_65) (fun _ h9 => h9) rfl (by decide +kernel) rfl rfl (Nat.le_of_ble_eq_true rfl) dX12_scan_53 (fun H locs hP hD hS => ?_)
      have hP : va_P (dC, dI) vwCl (mW h0 kB kI kZ q (upd (upd g 3 4) 5 x31_1) F) H := by first | exact sP_g3 hP (upd_in (by decide) rfl) | exact sP_g3 hP (upd_in (by decide) upd_same) | exact hP
      have hD : va_D A (mW h0 kB kI kZ q (upd (upd g 3 4) 5 x31_1) F) := by first | exact sD_g3 hD (upd_in (by decide) rfl) | exact sD_g3 hD (upd_in (by decide) upd_same) | exact hD
      refine lv_iload_n hx hb dX12_scan_56 rfl (lv_at hl 3 rfl) ?_
      refine lv_istore_n (lv' := [(3, .int x31_1), (2, .int r38), (0, .ref h0), (1, .int x31_1)]) hx hb dX12_scan_57 rfl hl (by decide) rfl (fun ls hl => ?_)
      refine lv_goto (tgt := 190) hx hb dX12_scan_58 (by decide) ?_
      first | exact Jj190 x31_1 4 (g 4) H _ ls hr (sP_eq (mW_cg (by repeat (first | with_reducible rfl | with_reducible refine upd_cg ?_ | refine Eq.trans ?_ (upd_id rfl))) (by repeat (first | with_reducible rfl | with_reducible refine upF_cg ?_ | refine Eq.trans ?_ (upF_id rfl)))) hP) (sD_eq (mW_cg (by repeat (first | with_reducible rfl | with_reducible refine upd_cg ?_ | refine Eq.trans ?_ (upd_id rfl))) (by repeat (first | with_reducible rfl | with_reducible refine upF_cg ?_ | refine Eq.trans ?_ (upF_id rfl)))) hD) hS (lv_sub hl [2, 0] rfl) | exact Jj190 x31_1 4 (g 4) H _ ls hr hP hD hS (lv_sub hl [2, 0] rfl)
  have lp5 : ∀ (n5 : Nat) (y5_1 : Int32) (H : Heap) (locs : List Loc) (ls : Array Slot), L_scan_5 g F k31 n5 y5_1 = some (c_g3, c_g4, c_g5, c_g6) → va_P (dC, dI) vwCl (mW h0 kB kI kZ q g F) H → va_D A (mW h0 kB kI kZ q g F) → va_S A s.heap H locs → lv_has ls 4 [(0, .ref h0), (1, .int y5_1)] → W p l e ({ frames := 7, cells := 0, slots := 0, locals := 367 } : Room) s m args below meth c H locs 0 0 Q (F0 m 5 ls []) := by
    intro n5
    induction n5 with
    | zero => intro y5_1 H locs ls hr; exact nomatch (show none = some (c_g3, c_g4, c_g5, c_g6) from hr)
    | succ n5 ih5 =>
      intro y5_1 H locs ls hr hP hD hS hl
      replace hr : B_scan_5 g F k31 (L_scan_5 g F k31 n5) y5_1 = some (c_g3, c_g4, c_g5, c_g6) := hr
      unfold B_scan_5 at hr
      refine lv_aload_n hx hb dX12_scan_5 rfl (lv_at hl 0 rfl) ?_
      refine lv_iload_n hx hb dX12_scan_6 rfl (lv_at hl 1 rfl) ?_
      replace hr := b1S hr
      obtain ⟨r7z, hc7, hr⟩ := hr
      have hFc := fr_all hD hS hA
      refine va_calli (va_runV (As := [.int y5_1]) (rest := []) ⟨hx, hb, hml, hown, hts⟩ (m_see l dC dI H.size h0 kB kI kZ q g F y5_1 r7z hc7) (cwV 1 hts gw_X12_see_170 rfl rfl rfl (by decide +kernel) ⟨Nat.le_of_ble_eq_true rfl, Nat.le_of_ble_eq_true rfl⟩) ⟨fun a U g mk q => by obtain ⟨q0, q1, qP, qK, qD⟩ := q; exact ⟨q0, q1, qP, va_K.moved (u := U) (U := U.calling g mk a) (Vm.Alike.refl U.vm) qK, qD⟩, va_recv hK hP (ci := 12) (q0 := 0) rfl rfl, fun U hU hW => ⟨rfl, by rw [hU], by rw [hU]; exact hP, va_K.moved hW.alike hK, hD.weaken (fun _ _ _ _ => trivial)⟩⟩ rfl rfl hl.1 rfl (lv_room (Nat.le_of_ble_eq_true rfl)) dX12_scan_7 ⟨Nat.le_of_ble_eq_true rfl, Nat.le_of_ble_eq_true rfl⟩) hS (fun q _ h => hFc q h) hFc (fun r7 u t H1 locs ht hvm hw hB hz1 hk1 hS => ?_)
      replace hw : r7 = r7z := hw
      subst hw
      obtain ⟨hP1, hK1, hD1⟩ := hB
      rw [ht] at hP1
      obtain ⟨hP, hD⟩ := jn_all (w1 := (mW h0 kB kI kZ q g F)) hFc hP1 hD1
      clear hFc hP1 hK1 hD1 hk1 hz1 ht hvm
      generalize H1 = H at hP hS ⊢
      have hP : va_P (dC, dI) vwCl (mW h0 kB kI kZ q g F) H := hP
      have hD : va_D A (mW h0 kB kI kZ q g F) := hD
      refine lv_bipush (v := 32) hx hb dX12_scan_10 (by decide +kernel) ?_
      replace hr := jnS hr
      obtain ⟨j25, hj25, hr⟩ := hr
      have Jj25 : ∀ (H : Heap) (locs : List Loc) (ls : Array Slot), j25 () = some (c_g3, c_g4, c_g5, c_g6) → va_P (dC, dI) vwCl (mW h0 kB kI kZ q g F) H → va_D A (mW h0 kB kI kZ q g F) → va_S A s.heap H locs → lv_has ls 4 [(0, .ref h0), (1, .int y5_1)] → W p l e ({ frames := 7, cells := 0, slots := 0, locals := 367 } : Room) s m args below meth c H locs 0 0 Q (F0 m 25 ls []) := by
        intro H locs ls hr hP hD hS hl
        rw [hj25] at hr
        refine lv_iinc (v := (y5_1 + 1)) (lv' := [(1, .int (y5_1 + 1)), (0, .ref h0)]) hx hb dX12_scan_25 hl (k := 1) rfl rfl (by decide) rfl (fun ls hl => ?_)
        refine lv_goto (tgt := 5) hx hb dX12_scan_28 (by decide) ?_
        exact ih5 (y5_1 + 1) H _ ls hr hP hD hS (lv_sub hl [1, 0] rfl)
      refine lv_icmp_eq (tgt := 25) hx hb dX12_scan_12 (by decide) (fun c12 => ?_) (fun c12 => ?_)
      · replace hr := iteT c12 hr
        exact Jj25 H _ ls hr hP hD hS (lv_sub hl [0, 1] rfl)
      · replace hr := iteF c12 hr
        refine lv_aload_n hx hb dX12_scan_15 rfl (lv_at hl 0 rfl) ?_
        refine lv_iload_n hx hb dX12_scan_16 rfl (lv_at hl 1 rfl) ?_
        replace hr := b1S hr
        obtain ⟨r17z, hc17, hr⟩ := hr
        have hFc := fr_all hD hS hA
        refine va_calli (va_runV (As := [.int y5_1]) (rest := []) ⟨hx, hb, hml, hown, hts⟩ (m_see l dC dI H.size h0 kB kI kZ q g F y5_1 r17z hc17) (cwV 1 hts gw_X12_see_170 rfl rfl rfl (by decide +kernel) ⟨Nat.le_of_ble_eq_true rfl, Nat.le_of_ble_eq_true rfl⟩) ⟨fun a U g mk q => by obtain ⟨q0, q1, qP, qK, qD⟩ := q; exact ⟨q0, q1, qP, va_K.moved (u := U) (U := U.calling g mk a) (Vm.Alike.refl U.vm) qK, qD⟩, va_recv hK hP (ci := 12) (q0 := 0) rfl rfl, fun U hU hW => ⟨rfl, by rw [hU], by rw [hU]; exact hP, va_K.moved hW.alike hK, hD.weaken (fun _ _ _ _ => trivial)⟩⟩ rfl rfl hl.1 rfl (lv_room (Nat.le_of_ble_eq_true rfl)) dX12_scan_17 ⟨Nat.le_of_ble_eq_true rfl, Nat.le_of_ble_eq_true rfl⟩) hS (fun q _ h => hFc q h) hFc (fun r17 u t H1 locs ht hvm hw hB hz1 hk1 hS => ?_)
        replace hw : r17 = r17z := hw
        subst hw
        obtain ⟨hP1, hK1, hD1⟩ := hB
        rw [ht] at hP1
        obtain ⟨hP, hD⟩ := jn_all (w1 := (mW h0 kB kI kZ q g F)) hFc hP1 hD1
        clear hFc hP1 hK1 hD1 hk1 hz1 ht hvm
        generalize H1 = H at hP hS ⊢
        have hP : va_P (dC, dI) vwCl (mW h0 kB kI kZ q g F) H := hP
        have hD : va_D A (mW h0 kB kI kZ q g F) := hD
        refine lv_bipush (v := 10) hx hb dX12_scan_20 (by decide +kernel) ?_
        refine lv_icmp_ne (tgt := 31) hx hb dX12_scan_22 (by decide) (fun c22 => ?_) (fun c22 => ?_)
        · replace hr := iteF c22 hr
          exact Jk31 y5_1 H _ ls hr hP hD hS (lv_sub hl [0, 1] rfl)
        · replace hr := iteT c22 hr
          exact Jj25 H _ ls hr hP hD hS (lv_sub hl [0, 1] rfl)
  first | exact lp5 NN (g 6) H _ ls hr (sP_eq (mW_cg (by repeat (first | with_reducible rfl | with_reducible refine upd_cg ?_ | refine Eq.trans ?_ (upd_id rfl))) (by repeat (first | with_reducible rfl | with_reducible refine upF_cg ?_ | refine Eq.trans ?_ (upF_id rfl)))) hP) (sD_eq (mW_cg (by repeat (first | with_reducible rfl | with_reducible refine upd_cg ?_ | refine Eq.trans ?_ (upd_id rfl))) (by repeat (first | with_reducible rfl | with_reducible refine upF_cg ?_ | refine Eq.trans ?_ (upF_id rfl)))) hD) hS (lv_sub hl [1, 0] rfl) | exact lp5 NN (g 6) H _ ls hr hP hD hS (lv_sub hl [1, 0] rfl)
set_option maxHeartbeats 4000000 in
set_option maxRecDepth 100000 in
theorem m_scan (l : Launch) (dC : Nat → ClassId) (dI : Nat → Nat → Nat) (adK adV : Nat → Nat) (sz : Nat) (h0 : Nat) (kB kI kZ : ClassId) (q : Nat → Nat) (g : Nat → Int32) (F : Nat → Nat → Int32) (c_g3 : Int32) (c_g4 : Int32) (c_g5 : Int32) (c_g6 : Int32) (hr : f_scan g F = some (c_g3, c_g4, c_g5, c_g6)) : Met l yX12_scan vmX12_scan ({ frames := 7, cells := 0, slots := 0, locals := 367 } : Room) (va_Pc [.ref h0] (fun U => U.heap.size = sz ∧ va_P (dC, dI) vwCl (mW h0 kB kI kZ q g F) U.heap ∧ va_K (dC, dI) vwCl (mT kB kI kZ) U ∧ va_D (fun _ => True) (mW h0 kB kI kZ q g F) ∧ SE adK adV (va_A (mW h0 kB kI kZ q g F) sz) U)) (va_Qv (fun _ : Unit => True) (fun _ t => va_P (dC, dI) vwCl (mW h0 kB kI kZ q (upd (upd (upd (upd g 3 c_g3) 4 c_g4) 5 c_g5) 6 c_g6) F) t.heap ∧ va_K (dC, dI) vwCl (mT kB kI kZ) t ∧ va_D (va_A (mW h0 kB kI kZ q g F) sz) (mW h0 kB kI kZ q (upd (upd (upd (upd g 3 c_g3) 4 c_g4) 5 c_g5) 6 c_g6) F)) (va_A (mW h0 kB kI kZ q g F) sz)) 0 0 (va_A (mW h0 kB kI kZ q g F) sz) := by
  refine Met.ofW (cc := cX12_scan) (maxL := 4) (ret := none) (by decide) rfl ?_
  intro p e s m args below meth c s₁ B hml hv
  obtain ⟨rfl, hsz, hP, hK, hD0, hSE⟩ := hv
  have hx := B.exec
  have hb := B.bytes
  have hrt := B.returns
  have hts := atoms_spec (ws := vmX12_scan) B.pre
  have hown : s.vm.findClass RX12 = some m.cls := findClass_of_methodNamed B.named
  subst hsz
  have hD := hD0.self (sz := s.heap.size)
  generalize hAe : va_A (mW h0 kB kI kZ q g F) s.heap.size = A at hD hSE ⊢
  have hA : ∀ q : Nat, s.heap.size ≤ q → A q := fun q h => by rw [← hAe]; exact Or.inr h
  have hS : va_S A s.heap s.heap [] := va_S.rf
  have hl := lv_entry ([.ref h0]) (n := 4) (Nat.le_of_ble_eq_true rfl)
  rw [lg_entry_eq]
  generalize (lg_sl ([.ref h0]) ++ List.replicate (4 - (lg_sl ([.ref h0])).length) Slot.unset).toArray = ls at hl ⊢
  exact bm_scan c_g3 c_g4 c_g5 c_g6 hr hx hb hml hown hts hA hK hSE hP hD hS hl (fun pc ls c_g3z c_g4z c_g5z c_g6z H locs he hd hP hD hS => by cases he; exact W.vret hx hb hrt (fun t ht hW => ⟨⟨(), rfl, trivial, by rw [ht]; exact hP, va_K.moved hW.alike hK, hD⟩, hS.F ht⟩) hS.2.2 hd)
set_option maxHeartbeats 4000000 in
set_option maxRecDepth 100000 in
theorem bm_readListed {p : Program} {l : Launch} {e : Env} {s : State} {m : MethodId} {args : Array Value} {below : List Frame} {meth : Method} {c : Code} {Q : State → Prop} {A : Nat → Prop} {dC : Nat → ClassId} {dI : Nat → Nat → Nat} {h0 : Nat} {kB kI kZ : ClassId} {q : Nat → Nat} {g : Nat → Int32} {F : Nat → Nat → Int32} {H : Heap} {locs : List Loc} {ls : Array Slot} (p0 : Int32) (r : Int32) (c_g3 : Int32) (c_g4 : Int32) (c_g5 : Int32) (c_g6 : Int32) (c_g7 : Int32) (c_g8 : Int32) (c_F13 : (Nat → Int32)) (c_F20 : (Nat → Int32)) (c_F21 : (Nat → Int32)) (hr : f_readListed g F p0 = some (r, c_g3, c_g4, c_g5, c_g6, c_g7, c_g8, c_F13, c_F20, c_F21)) (hx : p.tables.exec = Jvm.exec) (hb : c.code = cX12_readListed) (hml : c.maxLocals = 4) (hown : s.vm.findClass RX12 = some m.cls) (hts : ∀ w ∈ vmX12_readListed, w.before args s = true) (hA : ∀ q : Nat, s.heap.size ≤ q → A q) (hK : va_K (dC, dI) vwCl (mT kB kI kZ) s) {adK adV : Nat → Nat} (hSE : SE adK adV A s) (hP : va_P (dC, dI) vwCl (mW h0 kB kI kZ q g F) H) (hD : va_D A (mW h0 kB kI kZ q g F)) (hS : va_S A s.heap H locs) (hl : lv_has ls 4 [(0, .ref h0), (1, .int p0)])
    (K : ∀ (pc : Nat) (ls : Array Slot) (rz : Int32) (c_g3z : Int32) (c_g4z : Int32) (c_g5z : Int32) (c_g6z : Int32) (c_g7z : Int32) (c_g8z : Int32) (c_F13z : (Nat → Int32)) (c_F20z : (Nat → Int32)) (c_F21z : (Nat → Int32)) (H : Heap) (locs : List Loc), some (rz, c_g3z, c_g4z, c_g5z, c_g6z, c_g7z, c_g8z, c_F13z, c_F20z, c_F21z) = some (r, c_g3, c_g4, c_g5, c_g6, c_g7, c_g8, c_F13, c_F20, c_F21) → is01 rz → decode cX12_readListed pc = .ok (.ireturn, 1) → va_P (dC, dI) vwCl (mW h0 kB kI kZ q (upd (upd (upd (upd (upd (upd g 3 c_g3z) 4 c_g4z) 5 c_g5z) 6 c_g6z) 7 c_g7z) 8 c_g8z) (upF (upF (upF F 13 c_F13z) 20 c_F20z) 21 c_F21z)) H → va_D A (mW h0 kB kI kZ q (upd (upd (upd (upd (upd (upd g 3 c_g3z) 4 c_g4z) 5 c_g5z) 6 c_g6z) 7 c_g7z) 8 c_g8z) (upF (upF (upF F 13 c_F13z) 20 c_F20z) 21 c_F21z)) → va_S A s.heap H locs → W p l e ({ frames := 8, cells := 0, slots := 0, locals := 390 } : Room) s m args below meth c H locs 0 0 Q (F0 m pc ls [.int rz])) : W p l e ({ frames := 8, cells := 0, slots := 0, locals := 390 } : Room) s m args below meth c H locs 0 0 Q (F0 m 0 ls []) := by
  unfold f_readListed at hr
  refine lv_aload_n hx hb dX12_readListed_0 rfl (lv_at hl 0 rfl) ?_
  refine va_get (D := (dC, dI)) (ci := 12) (v := .ref (q 13)) (C := RX12) (T := TX12) (N := 71) hx hb hts inX12 hown hK hP 0 rfl rfl 13 (by decide) (hts (.fieldLink RX12 27 "SpellTurnerModel" "listed" "[I") im_62) (fun _ h9 => h9) rfl dX12_readListed_1 ?_
  refine lv_bipush (v := 6) hx hb dX12_readListed_4 (by decide +kernel) ?_
  replace hr := iteS hr
  obtain ⟨hi6, hr⟩ := hr
  refine va_iald (f := (F 13)) hx hb hK hP 5 1 rfl rfl (inbV hi6) dX12_readListed_6 ?_
  refine lv_bipush (v := 40) hx hb dX12_readListed_7 (by decide +kernel) ?_
  refine lv_icmp_ne (tgt := 18) hx hb dX12_readListed_9 (by decide) (fun c9 => ?_) (fun c9 => ?_)
  · replace hr := iteF c9 hr
    refine lv_aload_n hx hb dX12_readListed_18 rfl (lv_at hl 0 rfl) ?_
    replace hr := b4S hr
    obtain ⟨c19_g3, c19_g4, c19_g5, c19_g6, hc19, hr⟩ := hr
    have hFc := fr_all hD hS hA
    refine va_callv (va_runV (As := []) (rest := []) ⟨hx, hb, hml, hown, hts⟩ (m_scan l dC dI adK adV H.size h0 kB kI kZ q g F c19_g3 c19_g4 c19_g5 c19_g6 hc19) (cwV 0 hts gw_X12_scan_200 rfl rfl rfl (by decide +kernel) ⟨Nat.le_of_ble_eq_true rfl, Nat.le_of_ble_eq_true rfl⟩) ⟨fun a U g mk q => by obtain ⟨q0, q1, qP, qK, qD, qS⟩ := q; exact ⟨q0, q1, qP, va_K.moved (u := U) (U := U.calling g mk a) (Vm.Alike.refl U.vm) qK, qD, qS.calling⟩, va_recv hK hP (ci := 12) (q0 := 0) rfl rfl, fun U hU hW => ⟨rfl, by rw [hU], by rw [hU]; exact hP, va_K.moved hW.alike hK, hD.weaken (fun _ _ _ _ => trivial), (hSE.warm hS hU hW).narrow hFc⟩⟩ rfl rfl hl.1 rfl (lv_room (Nat.le_of_ble_eq_true rfl)) dX12_readListed_19 ⟨Nat.le_of_ble_eq_true rfl, Nat.le_of_ble_eq_true rfl⟩) hS (fun q _ h => hFc q h) hFc (fun u t H1 locs ht hvm hw hB hz1 hk1 hS => ?_)
    obtain ⟨hP1, hK1, hD1⟩ := hB
    rw [ht] at hP1
    obtain ⟨hP, hD⟩ := jn_all (w1 := (mW h0 kB kI kZ q (upd (upd (upd (upd g 3 c19_g3) 4 c19_g4) 5 c19_g5) 6 c19_g6) F)) hFc hP1 hD1
    clear hFc hP1 hK1 hD1 hk1 hz1 ht hvm
    generalize H1 = H at hP hS ⊢
    have hP : va_P (dC, dI) vwCl (mW h0 kB kI kZ q (upd (upd (upd (upd g 3 c19_g3) 4 c19_g4) 5 c19_g5) 6 c19_g6) F) H := hP
    have hD : va_D A (mW h0 kB kI kZ q (upd (upd (upd (upd g 3 c19_g3) 4 c19_g4) 5 c19_g5) 6 c19_g6) F) := hD
    refine lv_iconst (v := 2) hx hb dX12_readListed_22 (by decide +kernel) ?_
    refine lv_sipush (v := 240) hx hb dX12_readListed_23 (by decide +kernel) ?_
    refine lv_aload_n hx hb dX12_readListed_26 rfl (lv_at hl 0 rfl) ?_
    refine va_get (D := (dC, dI)) (ci := 12) (v := .ref (q 13)) (C := RX12) (T := TX12) (N := 71) hx hb hts inX12 hown hK hP 0 rfl rfl 13 (by decide) (hts (.fieldLink RX12 27 "SpellTurnerModel" "listed" "[I") im_62) (fun _ h9 => h9) rfl dX12_readListed_27 ?_
    refine lv_bipush (v := 6) hx hb dX12_readListed_30 (by decide +kernel) ?_
    replace hr := iteS hr
    obtain ⟨hi32, hr⟩ := hr
    refine va_iald (f := (F 13)) hx hb hK hP 5 1 rfl rfl (inbV hi32) dX12_readListed_32 ?_
    refine lv_iadd hx hb dX12_readListed_33 ?_
    refine lv_imul hx hb dX12_readListed_34 ?_
    refine lv_topi (fun x35 ex35 => ?_)
    replace hr := vlS hr x35 ex35
    clear ex35
    refine lv_istore_n (lv' := [(2, .int x35), (0, .ref h0), (1, .int p0)]) hx hb dX12_readListed_35 rfl hl (by decide) rfl (fun ls hl => ?_)
    refine lv_aload_n hx hb dX12_readListed_36 rfl (lv_at hl 1 rfl) ?_
    refine lv_aload_n hx hb dX12_readListed_37 rfl (lv_at hl 1 rfl) ?_
    refine va_get (D := (dC, dI)) (ci := 12) (v := .ref (q 20)) (C := RX12) (T := TX12) (N := 71) hx hb hts inX12 hown hK hP 0 rfl rfl 20 (by decide) (hts (.fieldLink RX12 49 "SpellTurnerModel" "listText" "[B") im_121) (fun _ h9 => h9) rfl dX12_readListed_38 ?_
    refine lv_aload_n hx hb dX12_readListed_41 rfl (lv_at hl 1 rfl) ?_
    refine va_get (D := (dC, dI)) (ci := 12) (v := .ref (q 21)) (C := RX12) (T := TX12) (N := 71) hx hb hts inX12 hown hK hP 0 rfl rfl 21 (by decide) (hts (.fieldLink RX12 52 "SpellTurnerModel" "listSize" "[I") im_63) (fun _ h9 => h9) rfl dX12_readListed_42 ?_
    refine lv_iload_n hx hb dX12_readListed_45 rfl (lv_at hl 0 rfl) ?_
    refine lv_iconst (v := 1) hx hb dX12_readListed_46 (by decide +kernel) ?_
    replace hr := b5S hr
    obtain ⟨r47z, c47_g7, c47_g8, c47_F20, c47_F21, hc47, hr⟩ := hr
    have hFc := fr_all hD hS hA
    refine va_calli (va_runV (As := [.ref (q 20), .ref (q 21), .int x35, .int 1]) (rest := []) ⟨hx, hb, hml, hown, hts⟩ (m_take_20_21 l dC dI H.size h0 kB kI kZ q (upd (upd (upd (upd g 3 c19_g3) 4 c19_g4) 5 c19_g5) 6 c19_g6) F x35 1 r47z c47_g7 c47_g8 c47_F20 c47_F21 hc47) (cwV 4 hts gw_X12_take_203 rfl rfl rfl (by decide +kernel) ⟨Nat.le_of_ble_eq_true rfl, Nat.le_of_ble_eq_true rfl⟩) ⟨fun a U g mk q => by obtain ⟨q0, q1, qP, qK, qD⟩ := q; exact ⟨q0, q1, qP, va_K.moved (u := U) (U := U.calling g mk a) (Vm.Alike.refl U.vm) qK, qD⟩, va_recv hK hP (ci := 12) (q0 := 0) rfl rfl, fun U hU hW => ⟨rfl, by rw [hU], by rw [hU]; exact hP, va_K.moved hW.alike hK, hD.weaken (fun _ _ _ _ => trivial)⟩⟩ rfl rfl hl.1 rfl (lv_room (Nat.le_of_ble_eq_true rfl)) dX12_readListed_47 ⟨Nat.le_of_ble_eq_true rfl, Nat.le_of_ble_eq_true rfl⟩) hS (fun q _ h => hFc q h) hFc (fun r47 u t H1 locs ht hvm hw hB hz1 hk1 hS => ?_)
    replace hw : r47 = r47z := hw
    subst hw
    obtain ⟨hP1, hK1, hD1⟩ := hB
    rw [ht] at hP1
    obtain ⟨hP, hD⟩ := jn_all (w1 := (mW h0 kB kI kZ q (upd (upd (upd (upd (upd (upd g 3 c19_g3) 4 c19_g4) 5 c19_g5) 6 c19_g6) 7 c47_g7) 8 c47_g8) (upF (upF F 20 c47_F20) 21 c47_F21))) hFc hP1 hD1
    clear hFc hP1 hK1 hD1 hk1 hz1 ht hvm
    generalize H1 = H at hP hS ⊢
    have hP : va_P (dC, dI) vwCl (mW h0 kB kI kZ q (upd (upd (upd (upd (upd (upd g 3 c19_g3) 4 c19_g4) 5 c19_g5) 6 c19_g6) 7 c47_g7) 8 c47_g8) (upF (upF F 20 c47_F20) 21 c47_F21)) H := hP
    have hD : va_D A (mW h0 kB kI kZ q (upd (upd (upd (upd (upd (upd g 3 c19_g3) 4 c19_g4) 5 c19_g5) 6 c19_g6) 7 c47_g7) 8 c47_g8) (upF (upF F 20 c47_F20) 21 c47_F21)) := hD
    refine lv_if_ne (tgt := 55) hx hb dX12_readListed_50 (by decide) (fun c50 => ?_) (fun c50 => ?_)
    · replace hr := iteF c50 hr
      refine lv_sipush (v := 480) hx hb dX12_readListed_55 (by decide +kernel) ?_
      refine lv_istore_n (lv' := [(3, .int 480), (2, .int x35), (0, .ref h0), (1, .int p0)]) hx hb dX12_readListed_58 rfl hl (by decide) rfl (fun ls hl => ?_)
      replace hr := jnS hr
      obtain ⟨k92, hk92, hr⟩ := hr
      have Jk92 : ∀ (H : Heap) (locs : List Loc) (ls : Array Slot), k92 () = some (r, c_g3, c_g4, c_g5, c_g6, c_g7, c_g8, c_F13, c_F20, c_F21) → va_P (dC, dI) vwCl (mW h0 kB kI kZ q (upd (upd (upd (upd (upd (upd g 3 c19_g3) 4 c19_g4) 5 c19_g5) 6 c19_g6) 7 c47_g7) 8 c47_g8) (upF (upF F 20 c47_F20) 21 c47_F21)) H → va_D A (mW h0 kB kI kZ q (upd (upd (upd (upd (upd (upd g 3 c19_g3) 4 c19_g4) 5 c19_g5) 6 c19_g6) 7 c47_g7) 8 c47_g8) (upF (upF F 20 c47_F20) 21 c47_F21)) → va_S A s.heap H locs → lv_has ls 4 [(0, .ref h0), (1, .int p0), (2, .int x35)] → W p l e ({ frames := 8, cells := 0, slots := 0, locals := 390 } : Room) s m args below meth c H locs 0 0 Q (F0 m 92 ls []) := by
        intro H locs ls hr hP hD hS hl
        rw [hk92] at hr
        refine lv_aload_n hx hb dX12_readListed_92 rfl (lv_at hl 0 rfl) ?_
        refine va_get (D := (dC, dI)) (ci := 12) (v := .ref (q 21)) (C := RX12) (T := TX12) (N := 71) hx hb hts inX12 hown hK hP 0 rfl rfl 21 (by decide) (hts (.fieldLink RX12 52 "SpellTurnerModel" "listSize" "[I") im_63) (fun _ h9 => h9) rfl dX12_readListed_93 ?_
        refine lv_iload_n hx hb dX12_readListed_96 rfl (lv_at hl 2 rfl) ?_
        refine lv_iconst (v := 1) hx hb dX12_readListed_97 (by decide +kernel) ?_
        refine lv_iadd hx hb dX12_readListed_98 ?_
        refine lv_iconst (v := (-1)) hx hb dX12_readListed_99 (by decide +kernel) ?_
        replace hr := iteS hr
        obtain ⟨hi100, hr⟩ := hr
        refine va_iast (f := c47_F21) hx hb hK hP hD hS 13 1 rfl rfl (inbV hi100) dX12_readListed_100 (fun H locs hP hD hS => ?_)
        obtain ⟨w100, ew100, hP, hD⟩ : ∃ w100 : Nat → Int32, w100 = (upd c47_F21 (Int32.toNatClampNeg (x35 + 1)) (-1)) ∧ va_P (dC, dI) vwCl (mW h0 kB kI kZ q (upd (upd (upd (upd (upd (upd g 3 c19_g3) 4 c19_g4) 5 c19_g5) 6 c19_g6) 7 c47_g7) 8 c47_g8) (upF (upF F 20 c47_F20) 21 w100)) H ∧ va_D A (mW h0 kB kI kZ q (upd (upd (upd (upd (upd (upd g 3 c19_g3) 4 c19_g4) 5 c19_g5) 6 c19_g6) 7 c47_g7) 8 c47_g8) (upF (upF F 20 c47_F20) 21 w100)) := ⟨(upd c47_F21 (Int32.toNatClampNeg (x35 + 1)) (-1)), rfl, by first | exact sP_F21 hP upF_same | exact sP_F21 hP rfl | exact hP, by first | exact sD_F21 hD upF_same | exact sD_F21 hD rfl | exact hD⟩
        replace hr := vlS hr w100 ew100
        clear ew100
        refine lv_aload_n hx hb dX12_readListed_101 rfl (lv_at hl 0 rfl) ?_
        replace hr := b4S hr
        obtain ⟨c102_g3, c102_g4, c102_g5, c102_g6, hc102, hr⟩ := hr
        have hFc := fr_all hD hS hA
        refine va_callv (va_runV (As := []) (rest := []) ⟨hx, hb, hml, hown, hts⟩ (m_scan l dC dI adK adV H.size h0 kB kI kZ q (upd (upd (upd (upd (upd (upd g 3 c19_g3) 4 c19_g4) 5 c19_g5) 6 c19_g6) 7 c47_g7) 8 c47_g8) (upF (upF F 20 c47_F20) 21 w100) c102_g3 c102_g4 c102_g5 c102_g6 hc102) (cwV 0 hts gw_X12_scan_200 rfl rfl rfl (by decide +kernel) ⟨Nat.le_of_ble_eq_true rfl, Nat.le_of_ble_eq_true rfl⟩) ⟨fun a U g mk q => by obtain ⟨q0, q1, qP, qK, qD, qS⟩ := q; exact ⟨q0, q1, qP, va_K.moved (u := U) (U := U.calling g mk a) (Vm.Alike.refl U.vm) qK, qD, qS.calling⟩, va_recv hK hP (ci := 12) (q0 := 0) rfl rfl, fun U hU hW => ⟨rfl, by rw [hU], by rw [hU]; exact hP, va_K.moved hW.alike hK, hD.weaken (fun _ _ _ _ => trivial), (hSE.warm hS hU hW).narrow hFc⟩⟩ rfl rfl hl.1 rfl (lv_room (Nat.le_of_ble_eq_true rfl)) dX12_readListed_102 ⟨Nat.le_of_ble_eq_true rfl, Nat.le_of_ble_eq_true rfl⟩) hS (fun q _ h => hFc q h) hFc (fun u t H1 locs ht hvm hw hB hz1 hk1 hS => ?_)
        obtain ⟨hP1, hK1, hD1⟩ := hB
        rw [ht] at hP1
        obtain ⟨hP, hD⟩ := jn_all (w1 := (mW h0 kB kI kZ q (upd (upd (upd (upd (upd (upd g 3 c102_g3) 4 c102_g4) 5 c102_g5) 6 c102_g6) 7 c47_g7) 8 c47_g8) (upF (upF F 20 c47_F20) 21 w100))) hFc hP1 hD1
        clear hFc hP1 hK1 hD1 hk1 hz1 ht hvm
        generalize H1 = H at hP hS ⊢
        have hP : va_P (dC, dI) vwCl (mW h0 kB kI kZ q (upd (upd (upd (upd (upd (upd g 3 c102_g3) 4 c102_g4) 5 c102_g5) 6 c102_g6) 7 c47_g7) 8 c47_g8) (upF (upF F 20 c47_F20) 21 w100)) H := hP
        have hD : va_D A (mW h0 kB kI kZ q (upd (upd (upd (upd (upd (upd g 3 c102_g3) 4 c102_g4) 5 c102_g5) 6 c102_g6) 7 c47_g7) 8 c47_g8) (upF (upF F 20 c47_F20) 21 w100)) := hD
        refine lv_iload_n hx hb dX12_readListed_105 rfl (lv_at hl 1 rfl) ?_
        replace hr := jnS hr
        obtain ⟨j160, hj160, hr⟩ := hr
        have Jj160 : ∀ (c160_g3 : Int32) (c160_g4 : Int32) (c160_g5 : Int32) (c160_g6 : Int32) (c160_g7 : Int32) (c160_g8 : Int32) (c160_F20 : (Nat → Int32)) (c160_F21 : (Nat → Int32)) (H : Heap) (locs : List Loc) (ls : Array Slot), j160 c160_g3 c160_g4 c160_g5 c160_g6 c160_g7 c160_g8 c160_F20 c160_F21 = some (r, c_g3, c_g4, c_g5, c_g6, c_g7, c_g8, c_F13, c_F20, c_F21) → va_P (dC, dI) vwCl (mW h0 kB kI kZ q (upd (upd (upd (upd (upd (upd g 3 c160_g3) 4 c160_g4) 5 c160_g5) 6 c160_g6) 7 c160_g7) 8 c160_g8) (upF (upF F 20 c160_F20) 21 c160_F21)) H → va_D A (mW h0 kB kI kZ q (upd (upd (upd (upd (upd (upd g 3 c160_g3) 4 c160_g4) 5 c160_g5) 6 c160_g6) 7 c160_g7) 8 c160_g8) (upF (upF F 20 c160_F20) 21 c160_F21)) → va_S A s.heap H locs → lv_has ls 4 [(0, .ref h0)] → W p l e ({ frames := 8, cells := 0, slots := 0, locals := 390 } : Room) s m args below meth c H locs 0 0 Q (F0 m 160 ls []) := by
          intro c160_g3 c160_g4 c160_g5 c160_g6 c160_g7 c160_g8 c160_F20 c160_F21 H locs ls hr hP hD hS hl
          rw [hj160] at hr
          refine lv_aload_n hx hb dX12_readListed_160 rfl (lv_at hl 0 rfl) ?_
          refine va_get (D := (dC, dI)) (ci := 12) (v := .ref (q 13)) (C := RX12) (T := TX12) (N := 71) hx hb hts inX12 hown hK hP 0 rfl rfl 13 (by decide) (hts (.fieldLink RX12 27 "SpellTurnerModel" "listed" "[I") im_62) (fun _ h9 => h9) rfl dX12_readListed_161 ?_
          refine lv_bipush (v := 6) hx hb dX12_readListed_164 (by decide +kernel) ?_
          refine lv_dup2_11 hx hb dX12_readListed_166 rfl rfl ?_
          replace hr := iteS hr
          obtain ⟨hi167, hr⟩ := hr
          refine va_iald (f := (F 13)) hx hb hK hP 5 1 rfl rfl (inbV hi167) dX12_readListed_167 ?_
          refine lv_iconst (v := 1) hx hb dX12_readListed_168 (by decide +kernel) ?_
          refine lv_iadd hx hb dX12_readListed_169 ?_
          replace hr := iteS hr
          obtain ⟨hi170, hr⟩ := hr
          refine va_iast (f := (F 13)) hx hb hK hP hD hS 5 1 rfl rfl (inbV hi170) dX12_readListed_170 (fun H locs hP hD hS => ?_)
          obtain ⟨w170, ew170, hP, hD⟩ : ∃ w170 : Nat → Int32, w170 = (upd (F 13) (Int32.toNatClampNeg 6) (((F 13) (Int32.toNatClampNeg 6)) + 1)) ∧ va_P (dC, dI) vwCl (mW h0 kB kI kZ q (upd (upd (upd (upd (upd (upd g 3 c160_g3) 4 c160_g4) 5 c160_g5) 6 c160_g6) 7 c160_g7) 8 c160_g8) (upF (upF (upF F 13 w170) 20 c160_F20) 21 c160_F21)) H ∧ va_D A (mW h0 kB kI kZ q (upd (upd (upd (upd (upd (upd g 3 c160_g3) 4 c160_g4) 5 c160_g5) 6 c160_g6) 7 c160_g7) 8 c160_g8) (upF (upF (upF F 13 w170) 20 c160_F20) 21 c160_F21)) := ⟨(upd (F 13) (Int32.toNatClampNeg 6) (((F 13) (Int32.toNatClampNeg 6)) + 1)), rfl, by first | exact sP_F13 hP (upF_in (by decide) (upF_in (by decide) rfl)) | exact sP_F13 hP (upF_in (by decide) (upF_in (by decide) upF_same)) | exact hP, by first | exact sD_F13 hD (upF_in (by decide) (upF_in (by decide) rfl)) | exact sD_F13 hD (upF_in (by decide) (upF_in (by decide) upF_same)) | exact hD⟩
          replace hr := vlS hr w170 ew170
          clear ew170
          refine lv_iconst (v := 1) hx hb dX12_readListed_171 (by decide +kernel) ?_
          first | exact K 172 ls _ _ _ _ _ _ _ _ _ _ H _ hr (by decide) dX12_readListed_172 (sP_eq (mW_cg (by repeat (first | with_reducible rfl | with_reducible refine upd_cg ?_ | refine Eq.trans ?_ (upd_id rfl))) (by repeat (first | with_reducible rfl | with_reducible refine upF_cg ?_ | refine Eq.trans ?_ (upF_id rfl)))) hP) (sD_eq (mW_cg (by repeat (first | with_reducible rfl | with_reducible refine upd_cg ?_ | refine Eq.trans ?_ (upd_id rfl))) (by repeat (first | with_reducible rfl | with_reducible refine upF_cg ?_ | refine Eq.trans ?_ (upF_id rfl)))) hD) hS | exact K 172 ls _ _ _ _ _ _ _ _ _ _ H _ hr (by decide) dX12_readListed_172 hP hD hS
        refine lv_if_eq (tgt := 160) hx hb dX12_readListed_106 (by decide) (fun c106 => ?_) (fun c106 => ?_)
        · replace hr := iteT c106 hr
          exact Jj160 c102_g3 c102_g4 c102_g5 c102_g6 c47_g7 c47_g8 c47_F20 w100 H _ ls hr hP hD hS (lv_sub hl [0] rfl)
        · replace hr := iteF c106 hr
          refine lv_aload_n hx hb dX12_readListed_109 rfl (lv_at hl 0 rfl) ?_
          refine va_get (D := (dC, dI)) (ci := 12) (v := .int c102_g3) (C := RX12) (T := TX12) (N := 71) hx hb hts inX12 hown hK hP 0 rfl rfl 3 (by decide) (hts (.fieldLink RX12 180 "SpellTurnerModel" "sort" "I") im_65) (fun _ h9 => h9) rfl dX12_readListed_110 ?_
          refine lv_iconst (v := 1) hx hb dX12_readListed_113 (by decide +kernel) ?_
          replace hr := jnS hr
          obtain ⟨j125, hj125, hr⟩ := hr
          have Jj125 : ∀ (H : Heap) (locs : List Loc) (ls : Array Slot), j125 () = some (r, c_g3, c_g4, c_g5, c_g6, c_g7, c_g8, c_F13, c_F20, c_F21) → va_P (dC, dI) vwCl (mW h0 kB kI kZ q (upd (upd (upd (upd (upd (upd g 3 c102_g3) 4 c102_g4) 5 c102_g5) 6 c102_g6) 7 c47_g7) 8 c47_g8) (upF (upF F 20 c47_F20) 21 w100)) H → va_D A (mW h0 kB kI kZ q (upd (upd (upd (upd (upd (upd g 3 c102_g3) 4 c102_g4) 5 c102_g5) 6 c102_g6) 7 c47_g7) 8 c47_g8) (upF (upF F 20 c47_F20) 21 w100)) → va_S A s.heap H locs → lv_has ls 4 [(0, .ref h0)] → W p l e ({ frames := 8, cells := 0, slots := 0, locals := 390 } : Room) s m args below meth c H locs 0 0 Q (F0 m 125 ls []) := by
            intro H locs ls hr hP hD hS hl
            rw [hj125] at hr
            refine lv_aload_n hx hb dX12_readListed_125 rfl (lv_at hl 0 rfl) ?_
            refine lv_iconst (v := 1) hx hb dX12_readListed_126 (by decide +kernel) ?_
            replace hr := b3S hr
            obtain ⟨r127z, c127_g7, c127_g8, hc127, hr⟩ := hr
            have hFc := fr_all hD hS hA
            refine va_calli (va_runV (As := [.int 1]) (rest := []) ⟨hx, hb, hml, hown, hts⟩ (m_wrong l dC dI H.size h0 kB kI kZ q (upd (upd (upd (upd (upd (upd g 3 c102_g3) 4 c102_g4) 5 c102_g5) 6 c102_g6) 7 c47_g7) 8 c47_g8) (upF (upF F 20 c47_F20) 21 w100) 1 r127z c127_g7 c127_g8 hc127) (cwV 1 hts gw_X12_wrong_197 rfl rfl rfl (by decide +kernel) ⟨Nat.le_of_ble_eq_true rfl, Nat.le_of_ble_eq_true rfl⟩) ⟨fun a U g mk q => by obtain ⟨q0, q1, qP, qK, qD⟩ := q; exact ⟨q0, q1, qP, va_K.moved (u := U) (U := U.calling g mk a) (Vm.Alike.refl U.vm) qK, qD⟩, va_recv hK hP (ci := 12) (q0 := 0) rfl rfl, fun U hU hW => ⟨rfl, by rw [hU], by rw [hU]; exact hP, va_K.moved hW.alike hK, hD.weaken (fun _ _ _ _ => trivial)⟩⟩ rfl rfl hl.1 rfl (lv_room (Nat.le_of_ble_eq_true rfl)) dX12_readListed_127 ⟨Nat.le_of_ble_eq_true rfl, Nat.le_of_ble_eq_true rfl⟩) hS (fun q _ h => hFc q h) hFc (fun r127 u t H1 locs ht hvm hw hB hz1 hk1 hS => ?_)
            replace hw : r127 = r127z := hw
            subst hw
            obtain ⟨hP1, hK1, hD1⟩ := hB
            rw [ht] at hP1
            obtain ⟨hP, hD⟩ := jn_all (w1 := (mW h0 kB kI kZ q (upd (upd (upd (upd (upd (upd g 3 c102_g3) 4 c102_g4) 5 c102_g5) 6 c102_g6) 7 c127_g7) 8 c127_g8) (upF (upF F 20 c47_F20) 21 w100))) hFc hP1 hD1
            clear hFc hP1 hK1 hD1 hk1 hz1 ht hvm
            generalize H1 = H at hP hS ⊢
            have hP : va_P (dC, dI) vwCl (mW h0 kB kI kZ q (upd (upd (upd (upd (upd (upd g 3 c102_g3) 4 c102_g4) 5 c102_g5) 6 c102_g6) 7 c127_g7) 8 c127_g8) (upF (upF F 20 c47_F20) 21 w100)) H := hP
            have hD : va_D A (mW h0 kB kI kZ q (upd (upd (upd (upd (upd (upd g 3 c102_g3) 4 c102_g4) 5 c102_g5) 6 c102_g6) 7 c127_g7) 8 c127_g8) (upF (upF F 20 c47_F20) 21 w100)) := hD
            replace hr := iteS hr
            obtain ⟨hz130, hr⟩ := hr
            first | exact K 130 ls _ _ _ _ _ _ _ _ _ _ H _ hr hz130 dX12_readListed_130 (sP_eq (mW_cg (by repeat (first | with_reducible rfl | with_reducible refine upd_cg ?_ | refine Eq.trans ?_ (upd_id rfl))) (by repeat (first | with_reducible rfl | with_reducible refine upF_cg ?_ | refine Eq.trans ?_ (upF_id rfl)))) hP) (sD_eq (mW_cg (by repeat (first | with_reducible rfl | with_reducible refine upd_cg ?_ | refine Eq.trans ?_ (upd_id rfl))) (by repeat (first | with_reducible rfl | with_reducible refine upF_cg ?_ | refine Eq.trans ?_ (upF_id rfl)))) hD) hS | exact K 130 ls _ _ _ _ _ _ _ _ _ _ H _ hr hz130 dX12_readListed_130 hP hD hS
          refine lv_icmp_ne (tgt := 125) hx hb dX12_readListed_114 (by decide) (fun c114 => ?_) (fun c114 => ?_)
          · replace hr := iteF c114 hr
            exact Jj125 H _ ls hr hP hD hS (lv_sub hl [0] rfl)
          · replace hr := iteT c114 hr
            refine lv_aload_n hx hb dX12_readListed_117 rfl (lv_at hl 0 rfl) ?_
            refine va_get (D := (dC, dI)) (ci := 12) (v := .int c102_g4) (C := RX12) (T := TX12) (N := 71) hx hb hts inX12 hown hK hP 0 rfl rfl 4 (by decide) (hts (.fieldLink RX12 191 "SpellTurnerModel" "what" "I") im_252) (fun _ h9 => h9) rfl dX12_readListed_118 ?_
            refine lv_iconst (v := 2) hx hb dX12_readListed_121 (by decide +kernel) ?_
            refine lv_icmp_eq (tgt := 131) hx hb dX12_readListed_122 (by decide) (fun c122 => ?_) (fun c122 => ?_)
            · replace hr := iteT c122 hr
              refine lv_aload_n hx hb dX12_readListed_131 rfl (lv_at hl 0 rfl) ?_
              replace hr := b4S hr
              obtain ⟨c132_g3, c132_g4, c132_g5, c132_g6, hc132, hr⟩ := hr
              have hFc := fr_all hD hS hA
              refine va_callv (va_runV (As := []) (rest := []) ⟨hx, hb, hml, hown, hts⟩ (m_scan l dC dI adK adV H.size h0 kB kI kZ q (upd (upd (upd (upd (upd (upd g 3 c102_g3) 4 c102_g4) 5 c102_g5) 6 c102_g6) 7 c47_g7) 8 c47_g8) (upF (upF F 20 c47_F20) 21 w100) c132_g3 c132_g4 c132_g5 c132_g6 hc132) (cwV 0 hts gw_X12_scan_200 rfl rfl rfl (by decide +kernel) ⟨Nat.le_of_ble_eq_true rfl, Nat.le_of_ble_eq_true rfl⟩) ⟨fun a U g mk q => by obtain ⟨q0, q1, qP, qK, qD, qS⟩ := q; exact ⟨q0, q1, qP, va_K.moved (u := U) (U := U.calling g mk a) (Vm.Alike.refl U.vm) qK, qD, qS.calling⟩, va_recv hK hP (ci := 12) (q0 := 0) rfl rfl, fun U hU hW => ⟨rfl, by rw [hU], by rw [hU]; exact hP, va_K.moved hW.alike hK, hD.weaken (fun _ _ _ _ => trivial), (hSE.warm hS hU hW).narrow hFc⟩⟩ rfl rfl hl.1 rfl (lv_room (Nat.le_of_ble_eq_true rfl)) dX12_readListed_132 ⟨Nat.le_of_ble_eq_true rfl, Nat.le_of_ble_eq_true rfl⟩) hS (fun q _ h => hFc q h) hFc (fun u t H1 locs ht hvm hw hB hz1 hk1 hS => ?_)
              obtain ⟨hP1, hK1, hD1⟩ := hB
              rw [ht] at hP1
              obtain ⟨hP, hD⟩ := jn_all (w1 := (mW h0 kB kI kZ q (upd (upd (upd (upd (upd (upd g 3 c132_g3) 4 c132_g4) 5 c132_g5) 6 c132_g6) 7 c47_g7) 8 c47_g8) (upF (upF F 20 c47_F20) 21 w100))) hFc hP1 hD1
              clear hFc hP1 hK1 hD1 hk1 hz1 ht hvm
              generalize H1 = H at hP hS ⊢
              have hP : va_P (dC, dI) vwCl (mW h0 kB kI kZ q (upd (upd (upd (upd (upd (upd g 3 c132_g3) 4 c132_g4) 5 c132_g5) 6 c132_g6) 7 c47_g7) 8 c47_g8) (upF (upF F 20 c47_F20) 21 w100)) H := hP
              have hD : va_D A (mW h0 kB kI kZ q (upd (upd (upd (upd (upd (upd g 3 c132_g3) 4 c132_g4) 5 c132_g5) 6 c132_g6) 7 c47_g7) 8 c47_g8) (upF (upF F 20 c47_F20) 21 w100)) := hD
              refine lv_aload_n hx hb dX12_readListed_135 rfl (lv_at hl 0 rfl) ?_
              refine lv_aload_n hx hb dX12_readListed_136 rfl (lv_at hl 0 rfl) ?_
              refine va_get (D := (dC, dI)) (ci := 12) (v := .ref (q 20)) (C := RX12) (T := TX12) (N := 71) hx hb hts inX12 hown hK hP 0 rfl rfl 20 (by decide) (hts (.fieldLink RX12 49 "SpellTurnerModel" "listText" "[B") im_121) (fun _ h9 => h9) rfl dX12_readListed_137 ?_
              refine lv_aload_n hx hb dX12_readListed_140 rfl (lv_at hl 0 rfl) ?_
              refine va_get (D := (dC, dI)) (ci := 12) (v := .ref (q 21)) (C := RX12) (T := TX12) (N := 71) hx hb hts inX12 hown hK hP 0 rfl rfl 21 (by decide) (hts (.fieldLink RX12 52 "SpellTurnerModel" "listSize" "[I") im_63) (fun _ h9 => h9) rfl dX12_readListed_141 ?_
              refine lv_iload_n hx hb dX12_readListed_144 rfl (lv_at hl 2 rfl) ?_
              refine lv_iconst (v := 1) hx hb dX12_readListed_145 (by decide +kernel) ?_
              refine lv_iadd hx hb dX12_readListed_146 ?_
              refine lv_iconst (v := 0) hx hb dX12_readListed_147 (by decide +kernel) ?_
              replace hr := b5S hr
              obtain ⟨r148z, c148_g7, c148_g8, c148_F20, c148_F21, hc148, hr⟩ := hr
              have hFc := fr_all hD hS hA
              refine va_calli (va_runV (As := [.ref (q 20), .ref (q 21), .int (x35 + 1), .int 0]) (rest := []) ⟨hx, hb, hml, hown, hts⟩ (m_take_20_21 l dC dI H.size h0 kB kI kZ q (upd (upd (upd (upd (upd (upd g 3 c132_g3) 4 c132_g4) 5 c132_g5) 6 c132_g6) 7 c47_g7) 8 c47_g8) (upF (upF F 20 c47_F20) 21 w100) (x35 + 1) 0 r148z c148_g7 c148_g8 c148_F20 c148_F21 hc148) (cwV 4 hts gw_X12_take_203 rfl rfl rfl (by decide +kernel) ⟨Nat.le_of_ble_eq_true rfl, Nat.le_of_ble_eq_true rfl⟩) ⟨fun a U g mk q => by obtain ⟨q0, q1, qP, qK, qD⟩ := q; exact ⟨q0, q1, qP, va_K.moved (u := U) (U := U.calling g mk a) (Vm.Alike.refl U.vm) qK, qD⟩, va_recv hK hP (ci := 12) (q0 := 0) rfl rfl, fun U hU hW => ⟨rfl, by rw [hU], by rw [hU]; exact hP, va_K.moved hW.alike hK, hD.weaken (fun _ _ _ _ => trivial)⟩⟩ rfl rfl hl.1 rfl (lv_room (Nat.le_of_ble_eq_true rfl)) dX12_readListed_148 ⟨Nat.le_of_ble_eq_true rfl, Nat.le_of_ble_eq_true rfl⟩) hS (fun q _ h => hFc q h) hFc (fun r148 u t H1 locs ht hvm hw hB hz1 hk1 hS => ?_)
              replace hw : r148 = r148z := hw
              subst hw
              obtain ⟨hP1, hK1, hD1⟩ := hB
              rw [ht] at hP1
              obtain ⟨hP, hD⟩ := jn_all (w1 := (mW h0 kB kI kZ q (upd (upd (upd (upd (upd (upd g 3 c132_g3) 4 c132_g4) 5 c132_g5) 6 c132_g6) 7 c148_g7) 8 c148_g8) (upF (upF F 20 c148_F20) 21 c148_F21))) hFc hP1 hD1
              clear hFc hP1 hK1 hD1 hk1 hz1 ht hvm
              generalize H1 = H at hP hS ⊢
              have hP : va_P (dC, dI) vwCl (mW h0 kB kI kZ q (upd (upd (upd (upd (upd (upd g 3 c132_g3) 4 c132_g4) 5 c132_g5) 6 c132_g6) 7 c148_g7) 8 c148_g8) (upF (upF F 20 c148_F20) 21 c148_F21)) H := hP
              have hD : va_D A (mW h0 kB kI kZ q (upd (upd (upd (upd (upd (upd g 3 c132_g3) 4 c132_g4) 5 c132_g5) 6 c132_g6) 7 c148_g7) 8 c148_g8) (upF (upF F 20 c148_F20) 21 c148_F21)) := hD
              refine lv_if_ne (tgt := 156) hx hb dX12_readListed_151 (by decide) (fun c151 => ?_) (fun c151 => ?_)
              · replace hr := iteF c151 hr
                refine lv_aload_n hx hb dX12_readListed_156 rfl (lv_at hl 0 rfl) ?_
                replace hr := b4S hr
                obtain ⟨c157_g3, c157_g4, c157_g5, c157_g6, hc157, hr⟩ := hr
                have hFc := fr_all hD hS hA
                refine va_callv (va_runV (As := []) (rest := []) ⟨hx, hb, hml, hown, hts⟩ (m_scan l dC dI adK adV H.size h0 kB kI kZ q (upd (upd (upd (upd (upd (upd g 3 c132_g3) 4 c132_g4) 5 c132_g5) 6 c132_g6) 7 c148_g7) 8 c148_g8) (upF (upF F 20 c148_F20) 21 c148_F21) c157_g3 c157_g4 c157_g5 c157_g6 hc157) (cwV 0 hts gw_X12_scan_200 rfl rfl rfl (by decide +kernel) ⟨Nat.le_of_ble_eq_true rfl, Nat.le_of_ble_eq_true rfl⟩) ⟨fun a U g mk q => by obtain ⟨q0, q1, qP, qK, qD, qS⟩ := q; exact ⟨q0, q1, qP, va_K.moved (u := U) (U := U.calling g mk a) (Vm.Alike.refl U.vm) qK, qD, qS.calling⟩, va_recv hK hP (ci := 12) (q0 := 0) rfl rfl, fun U hU hW => ⟨rfl, by rw [hU], by rw [hU]; exact hP, va_K.moved hW.alike hK, hD.weaken (fun _ _ _ _ => trivial), (hSE.warm hS hU hW).narrow hFc⟩⟩ rfl rfl hl.1 rfl (lv_room (Nat.le_of_ble_eq_true rfl)) dX12_readListed_157 ⟨Nat.le_of_ble_eq_true rfl, Nat.le_of_ble_eq_true rfl⟩) hS (fun q _ h => hFc q h) hFc (fun u t H1 locs ht hvm hw hB hz1 hk1 hS => ?_)
                obtain ⟨hP1, hK1, hD1⟩ := hB
                rw [ht] at hP1
                obtain ⟨hP, hD⟩ := jn_all (w1 := (mW h0 kB kI kZ q (upd (upd (upd (upd (upd (upd g 3 c157_g3) 4 c157_g4) 5 c157_g5) 6 c157_g6) 7 c148_g7) 8 c148_g8) (upF (upF F 20 c148_F20) 21 c148_F21))) hFc hP1 hD1
                clear hFc hP1 hK1 hD1 hk1 hz1 ht hvm
                generalize H1 = H at hP hS ⊢
                have hP : va_P (dC, dI) vwCl (mW h0 kB kI kZ q (upd (upd (upd (upd (upd (upd g 3 c157_g3) 4 c157_g4) 5 c157_g5) 6 c157_g6) 7 c148_g7) 8 c148_g8) (upF (upF F 20 c148_F20) 21 c148_F21)) H := hP
                have hD : va_D A (mW h0 kB kI kZ q (upd (upd (upd (upd (upd (upd g 3 c157_g3) 4 c157_g4) 5 c157_g5) 6 c157_g6) 7 c148_g7) 8 c148_g8) (upF (upF F 20 c148_F20) 21 c148_F21)) := hD
                exact Jj160 c157_g3 c157_g4 c157_g5 c157_g6 c148_g7 c148_g8 c148_F20 c148_F21 H _ ls hr hP hD hS (lv_sub hl [0] rfl)
              · replace hr := iteT c151 hr
                refine lv_iconst (v := 0) hx hb dX12_readListed_154 (by decide +kernel) ?_
                first | exact K 155 ls _ _ _ _ _ _ _ _ _ _ H _ hr (by decide) dX12_readListed_155 (sP_eq (mW_cg (by repeat (first | with_reducible rfl | with_reducible refine upd_cg ?_ | refine Eq.trans ?_ (upd_id rfl))) (by repeat (first | with_reducible rfl | with_reducible refine upF_cg ?_ | refine Eq.trans ?_ (upF_id rfl)))) hP) (sD_eq (mW_cg (by repeat (first | with_reducible rfl | with_reducible refine upd_cg ?_ | refine Eq.trans ?_ (upd_id rfl))) (by repeat (first | with_reducible rfl | with_reducible refine upF_cg ?_ | refine Eq.trans ?_ (upF_id rfl)))) hD) hS | exact K 155 ls _ _ _ _ _ _ _ _ _ _ H _ hr (by decide) dX12_readListed_155 hP hD hS
            · replace hr := iteF c122 hr
              exact Jj125 H _ ls hr hP hD hS (lv_sub hl [0] rfl)
      have lp59 : ∀ (n59 : Nat) (y59_3 : Int32) (H : Heap) (locs : List Loc) (ls : Array Slot), L_readListed_59 g F c19_g3 c19_g4 c19_g5 c19_g6 x35 c47_g7 c47_g8 c47_F20 c47_F21 k92 n59 y59_3 = some (r, c_g3, c_g4, c_g5, c_g6, c_g7, c_g8, c_F13, c_F20, c_F21) → va_P (dC, dI) vwCl (mW h0 kB kI kZ q (upd (upd (upd (upd (upd (upd g 3 c19_g3) 4 c19_g4) 5 c19_g5) 6 c19_g6) 7 c47_g7) 8 c47_g8) (upF (upF F 20 c47_F20) 21 c47_F21)) H → va_D A (mW h0 kB kI kZ q (upd (upd (upd (upd (upd (upd g 3 c19_g3) 4 c19_g4) 5 c19_g5) 6 c19_g6) 7 c47_g7) 8 c47_g8) (upF (upF F 20 c47_F20) 21 c47_F21)) → va_S A s.heap H locs → lv_has ls 4 [(0, .ref h0), (1, .int p0), (2, .int x35), (3, .int y59_3)] → W p l e ({ frames := 8, cells := 0, slots := 0, locals := 390 } : Room) s m args below meth c H locs 0 0 Q (F0 m 59 ls []) := by
        intro n59
        induction n59 with
        | zero => intro y59_3 H locs ls hr; exact nomatch (show none = some (r, c_g3, c_g4, c_g5, c_g6, c_g7, c_g8, c_F13, c_F20, c_F21) from hr)
        | succ n59 ih59 =>
          intro y59_3 H locs ls hr hP hD hS hl
          replace hr : B_readListed_59 g F c19_g3 c19_g4 c19_g5 c19_g6 x35 c47_g7 c47_g8 c47_F20 c47_F21 k92 (L_readListed_59 g F c19_g3 c19_g4 c19_g5 c19_g6 x35 c47_g7 c47_g8 c47_F20 c47_F21 k92 n59) y59_3 = some (r, c_g3, c_g4, c_g5, c_g6, c_g7, c_g8, c_F13, c_F20, c_F21) := hr
          unfold B_readListed_59 at hr
          refine lv_iload_n hx hb dX12_readListed_59 rfl (lv_at hl 3 rfl) ?_
          refine lv_iload_n hx hb dX12_readListed_60 rfl (lv_at hl 2 rfl) ?_
          refine lv_icmp_ge (tgt := 92) hx hb dX12_readListed_61 (by decide) (fun c61 => ?_) (fun c61 => ?_)
          · replace hr := iteT c61 hr
            exact Jk92 H _ ls hr hP hD hS (lv_sub hl [0, 1, 2] rfl)
          · replace hr := iteF c61 hr
            refine lv_aload_n hx hb dX12_readListed_64 rfl (lv_at hl 0 rfl) ?_
            refine va_get (D := (dC, dI)) (ci := 12) (v := .ref (q 20)) (C := RX12) (T := TX12) (N := 71) hx hb hts inX12 hown hK hP 0 rfl rfl 20 (by decide) (hts (.fieldLink RX12 49 "SpellTurnerModel" "listText" "[B") im_121) (fun _ h9 => h9) rfl dX12_readListed_65 ?_
            refine lv_aload_n hx hb dX12_readListed_68 rfl (lv_at hl 0 rfl) ?_
            refine va_get (D := (dC, dI)) (ci := 12) (v := .ref (q 21)) (C := RX12) (T := TX12) (N := 71) hx hb hts inX12 hown hK hP 0 rfl rfl 21 (by decide) (hts (.fieldLink RX12 52 "SpellTurnerModel" "listSize" "[I") im_63) (fun _ h9 => h9) rfl dX12_readListed_69 ?_
            refine lv_iload_n hx hb dX12_readListed_72 rfl (lv_at hl 3 rfl) ?_
            refine lv_iload_n hx hb dX12_readListed_73 rfl (lv_at hl 2 rfl) ?_
            replace hr := b1S hr
            obtain ⟨r74z, hc74, hr⟩ := hr
            have hFc := fr_all hD hS hA
            refine va_calli (va_runS (As := [.ref (q 20), .ref (q 21), .int y59_3, .int x35]) (rest := []) ⟨hx, hb, hml, hown, hts⟩ (m_same_20_21 l dC dI H.size h0 kB kI kZ q (upd (upd (upd (upd (upd (upd g 3 c19_g3) 4 c19_g4) 5 c19_g5) 6 c19_g6) 7 c47_g7) 8 c47_g8) (upF (upF F 20 c47_F20) 21 c47_F21) y59_3 x35 r74z hc74) (va_cwS 4 hts gw_X12_same_207 rfl rfl rfl (by decide +kernel) ⟨Nat.le_of_ble_eq_true rfl, Nat.le_of_ble_eq_true rfl⟩) ⟨fun a U g mk q => by obtain ⟨q0, q1, qP, qK, qD⟩ := q; exact ⟨q0, q1, qP, va_K.moved (u := U) (U := U.calling g mk a) (Vm.Alike.refl U.vm) qK, qD⟩, fun U hU hW => ⟨rfl, by rw [hU], by rw [hU]; exact hP, va_K.moved hW.alike hK, hD.weaken (fun _ _ _ _ => trivial)⟩⟩ rfl rfl hl.1 rfl (lv_room (Nat.le_of_ble_eq_true rfl)) dX12_readListed_74 ⟨Nat.le_of_ble_eq_true rfl, Nat.le_of_ble_eq_true rfl⟩) hS (fun q _ h => hFc q h) hFc (fun r74 u t H1 locs ht hvm hw hB hz1 hk1 hS => ?_)
            replace hw : r74 = r74z := hw
            subst hw
            obtain ⟨hP1, hK1, hD1⟩ := hB
            rw [ht] at hP1
            obtain ⟨hP, hD⟩ := jn_all (w1 := (mW h0 kB kI kZ q (upd (upd (upd (upd (upd (upd g 3 c19_g3) 4 c19_g4) 5 c19_g5) 6 c19_g6) 7 c47_g7) 8 c47_g8) (upF (upF F 20 c47_F20) 21 c47_F21))) hFc hP1 hD1
            clear hFc hP1 hK1 hD1 hk1 hz1 ht hvm
            generalize H1 = H at hP hS ⊢
            have hP : va_P (dC, dI) vwCl (mW h0 kB kI kZ q (upd (upd (upd (upd (upd (upd g 3 c19_g3) 4 c19_g4) 5 c19_g5) 6 c19_g6) 7 c47_g7) 8 c47_g8) (upF (upF F 20 c47_F20) 21 c47_F21)) H := hP
            have hD : va_D A (mW h0 kB kI kZ q (upd (upd (upd (upd (upd (upd g 3 c19_g3) 4 c19_g4) 5 c19_g5) 6 c19_g6) 7 c47_g7) 8 c47_g8) (upF (upF F 20 c47_F20) 21 c47_F21)) := hD
            refine lv_if_eq (tgt := 86) hx hb dX12_readListed_77 (by decide) (fun c77 => ?_) (fun c77 => ?_)
            · replace hr := iteT c77 hr
              refine lv_iinc (v := (y59_3 + 2)) (lv' := [(3, .int (y59_3 + 2)), (0, .ref h0), (1, .int p0), (2, .int x35)]) hx hb dX12_readListed_86 hl (k := 3) rfl rfl (by decide) rfl (fun ls hl => ?_)
              refine lv_goto (tgt := 59) hx hb dX12_readListed_89 (by decide) ?_
              exact ih59 (y59_3 + 2) H _ ls hr hP hD hS (lv_sub hl [1, 2, 3, 0] rfl)
            · replace hr := iteF c77 hr
              refine lv_aload_n hx hb dX12_readListed_80 rfl (lv_at hl 0 rfl) ?_
              refine lv_iconst (v := 3) hx hb dX12_readListed_81 (by decide +kernel) ?_
              replace hr := b3S hr
              obtain ⟨r82z, c82_g7, c82_g8, hc82, hr⟩ := hr
              have hFc := fr_all hD hS hA
              refine va_calli (va_runV (As := [.int 3]) (rest := []) ⟨hx, hb, hml, hown, hts⟩ (m_wrong l dC dI H.size h0 kB kI kZ q (upd (upd (upd (upd (upd (upd g 3 c19_g3) 4 c19_g4) 5 c19_g5) 6 c19_g6) 7 c47_g7) 8 c47_g8) (upF (upF F 20 c47_F20) 21 c47_F21) 3 r82z c82_g7 c82_g8 hc82) (cwV 1 hts gw_X12_wrong_197 rfl rfl rfl (by decide +kernel) ⟨Nat.le_of_ble_eq_true rfl, Nat.le_of_ble_eq_true rfl⟩) ⟨fun a U g mk q => by obtain ⟨q0, q1, qP, qK, qD⟩ := q; exact ⟨q0, q1, qP, va_K.moved (u := U) (U := U.calling g mk a) (Vm.Alike.refl U.vm) qK, qD⟩, va_recv hK hP (ci := 12) (q0 := 0) rfl rfl, fun U hU hW => ⟨rfl, by rw [hU], by rw [hU]; exact hP, va_K.moved hW.alike hK, hD.weaken (fun _ _ _ _ => trivial)⟩⟩ rfl rfl hl.1 rfl (lv_room (Nat.le_of_ble_eq_true rfl)) dX12_readListed_82 ⟨Nat.le_of_ble_eq_true rfl, Nat.le_of_ble_eq_true rfl⟩) hS (fun q _ h => hFc q h) hFc (fun r82 u t H1 locs ht hvm hw hB hz1 hk1 hS => ?_)
              replace hw : r82 = r82z := hw
              subst hw
              obtain ⟨hP1, hK1, hD1⟩ := hB
              rw [ht] at hP1
              obtain ⟨hP, hD⟩ := jn_all (w1 := (mW h0 kB kI kZ q (upd (upd (upd (upd (upd (upd g 3 c19_g3) 4 c19_g4) 5 c19_g5) 6 c19_g6) 7 c82_g7) 8 c82_g8) (upF (upF F 20 c47_F20) 21 c47_F21))) hFc hP1 hD1
              clear hFc hP1 hK1 hD1 hk1 hz1 ht hvm
              generalize H1 = H at hP hS ⊢
              have hP : va_P (dC, dI) vwCl (mW h0 kB kI kZ q (upd (upd (upd (upd (upd (upd g 3 c19_g3) 4 c19_g4) 5 c19_g5) 6 c19_g6) 7 c82_g7) 8 c82_g8) (upF (upF F 20 c47_F20) 21 c47_F21)) H := hP
              have hD : va_D A (mW h0 kB kI kZ q (upd (upd (upd (upd (upd (upd g 3 c19_g3) 4 c19_g4) 5 c19_g5) 6 c19_g6) 7 c82_g7) 8 c82_g8) (upF (upF F 20 c47_F20) 21 c47_F21)) := hD
              replace hr := iteS hr
              obtain ⟨hz85, hr⟩ := hr
              first | exact K 85 ls _ _ _ _ _ _ _ _ _ _ H _ hr hz85 dX12_readListed_85 (sP_eq (mW_cg (by repeat (first | with_reducible rfl | with_reducible refine upd_cg ?_ | refine Eq.trans ?_ (upd_id rfl))) (by repeat (first | with_reducible rfl | with_reducible refine upF_cg ?_ | refine Eq.trans ?_ (upF_id rfl)))) hP) (sD_eq (mW_cg (by repeat (first | with_reducible rfl | with_reducible refine upd_cg ?_ | refine Eq.trans ?_ (upd_id rfl))) (by repeat (first | with_reducible rfl | with_reducible refine upF_cg ?_ | refine Eq.trans ?_ (upF_id rfl)))) hD) hS | exact K 85 ls _ _ _ _ _ _ _ _ _ _ H _ hr hz85 dX12_readListed_85 hP hD hS
      exact lp59 NN 480 H _ ls hr hP hD hS (lv_sub hl [2, 3, 1, 0] rfl)
    · replace hr := iteT c50 hr
      refine lv_iconst (v := 0) hx hb dX12_readListed_53 (by decide +kernel) ?_
      first | exact K 54 ls _ _ _ _ _ _ _ _ _ _ H _ hr (by decide) dX12_readListed_54 (sP_eq (mW_cg (by repeat (first | with_reducible rfl | with_reducible refine upd_cg ?_ | refine Eq.trans ?_ (upd_id rfl))) (by repeat (first | with_reducible rfl | with_reducible refine upF_cg ?_ | refine Eq.trans ?_ (upF_id rfl)))) hP) (sD_eq (mW_cg (by repeat (first | with_reducible rfl | with_reducible refine upd_cg ?_ | refine Eq.trans ?_ (upd_id rfl))) (by repeat (first | with_reducible rfl | with_reducible refine upF_cg ?_ | refine Eq.trans ?_ (upF_id rfl)))) hD) hS | exact K 54 ls _ _ _ _ _ _ _ _ _ _ H _ hr (by decide) dX12_readListed_54 hP hD hS
  · replace hr := iteT c9 hr
    refine lv_aload_n hx hb dX12_readListed_12 rfl (lv_at hl 0 rfl) ?_
    refine lv_iconst (v := 4) hx hb dX12_readListed_13 (by decide +kernel) ?_
    replace hr := b3S hr
    obtain ⟨r14z, c14_g7, c14_g8, hc14, hr⟩ := hr
    have hFc := fr_all hD hS hA
    refine va_calli (va_runV (As := [.int 4]) (rest := []) ⟨hx, hb, hml, hown, hts⟩ (m_wrong l dC dI H.size h0 kB kI kZ q g F 4 r14z c14_g7 c14_g8 hc14) (cwV 1 hts gw_X12_wrong_197 rfl rfl rfl (by decide +kernel) ⟨Nat.le_of_ble_eq_true rfl, Nat.le_of_ble_eq_true rfl⟩) ⟨fun a U g mk q => by obtain ⟨q0, q1, qP, qK, qD⟩ := q; exact ⟨q0, q1, qP, va_K.moved (u := U) (U := U.calling g mk a) (Vm.Alike.refl U.vm) qK, qD⟩, va_recv hK hP (ci := 12) (q0 := 0) rfl rfl, fun U hU hW => ⟨rfl, by rw [hU], by rw [hU]; exact hP, va_K.moved hW.alike hK, hD.weaken (fun _ _ _ _ => trivial)⟩⟩ rfl rfl hl.1 rfl (lv_room (Nat.le_of_ble_eq_true rfl)) dX12_readListed_14 ⟨Nat.le_of_ble_eq_true rfl, Nat.le_of_ble_eq_true rfl⟩) hS (fun q _ h => hFc q h) hFc (fun r14 u t H1 locs ht hvm hw hB hz1 hk1 hS => ?_)
    replace hw : r14 = r14z := hw
    subst hw
    obtain ⟨hP1, hK1, hD1⟩ := hB
    rw [ht] at hP1
    obtain ⟨hP, hD⟩ := jn_all (w1 := (mW h0 kB kI kZ q (upd (upd g 7 c14_g7) 8 c14_g8) F)) hFc hP1 hD1
    clear hFc hP1 hK1 hD1 hk1 hz1 ht hvm
    generalize H1 = H at hP hS ⊢
    have hP : va_P (dC, dI) vwCl (mW h0 kB kI kZ q (upd (upd g 7 c14_g7) 8 c14_g8) F) H := hP
    have hD : va_D A (mW h0 kB kI kZ q (upd (upd g 7 c14_g7) 8 c14_g8) F) := hD
    replace hr := iteS hr
    obtain ⟨hz17, hr⟩ := hr
    first | exact K 17 ls _ _ _ _ _ _ _ _ _ _ H _ hr hz17 dX12_readListed_17 (sP_eq (mW_cg (by repeat (first | with_reducible rfl | with_reducible refine upd_cg ?_ | refine Eq.trans ?_ (upd_id rfl))) (by repeat (first | with_reducible rfl | with_reducible refine upF_cg ?_ | refine Eq.trans ?_ (upF_id rfl)))) hP) (sD_eq (mW_cg (by repeat (first | with_reducible rfl | with_reducible refine upd_cg ?_ | refine Eq.trans ?_ (upd_id rfl))) (by repeat (first | with_reducible rfl | with_reducible refine upF_cg ?_ | refine Eq.trans ?_ (upF_id rfl)))) hD) hS | exact K 17 ls _ _ _ _ _ _ _ _ _ _ H _ hr hz17 dX12_readListed_17 hP hD hS
set_option maxHeartbeats 4000000 in
set_option maxRecDepth 100000 in
theorem m_readListed (l : Launch) (dC : Nat → ClassId) (dI : Nat → Nat → Nat) (adK adV : Nat → Nat) (sz : Nat) (h0 : Nat) (kB kI kZ : ClassId) (q : Nat → Nat) (g : Nat → Int32) (F : Nat → Nat → Int32) (p0 : Int32) (r : Int32) (c_g3 : Int32) (c_g4 : Int32) (c_g5 : Int32) (c_g6 : Int32) (c_g7 : Int32) (c_g8 : Int32) (c_F13 : (Nat → Int32)) (c_F20 : (Nat → Int32)) (c_F21 : (Nat → Int32)) (hr : f_readListed g F p0 = some (r, c_g3, c_g4, c_g5, c_g6, c_g7, c_g8, c_F13, c_F20, c_F21)) : Met l yX12_readListed vmX12_readListed ({ frames := 8, cells := 0, slots := 0, locals := 390 } : Room) (va_Pc [.ref h0, .int p0] (fun U => U.heap.size = sz ∧ va_P (dC, dI) vwCl (mW h0 kB kI kZ q g F) U.heap ∧ va_K (dC, dI) vwCl (mT kB kI kZ) U ∧ va_D (fun _ => True) (mW h0 kB kI kZ q g F) ∧ SE adK adV (va_A (mW h0 kB kI kZ q g F) sz) U)) (va_Qi (fun (rz : Int32) (_ : Unit) => rz = r) (fun _ t => va_P (dC, dI) vwCl (mW h0 kB kI kZ q (upd (upd (upd (upd (upd (upd g 3 c_g3) 4 c_g4) 5 c_g5) 6 c_g6) 7 c_g7) 8 c_g8) (upF (upF (upF F 13 c_F13) 20 c_F20) 21 c_F21)) t.heap ∧ va_K (dC, dI) vwCl (mT kB kI kZ) t ∧ va_D (va_A (mW h0 kB kI kZ q g F) sz) (mW h0 kB kI kZ q (upd (upd (upd (upd (upd (upd g 3 c_g3) 4 c_g4) 5 c_g5) 6 c_g6) 7 c_g7) 8 c_g8) (upF (upF (upF F 13 c_F13) 20 c_F20) 21 c_F21))) (va_A (mW h0 kB kI kZ q g F) sz)) 0 0 (va_A (mW h0 kB kI kZ q g F) sz) := by
  refine Met.ofW (cc := cX12_readListed) (maxL := 4) (ret := (some .boolean)) (by decide) rfl ?_
  intro p e s m args below meth c s₁ B hml hv
  obtain ⟨rfl, hsz, hP, hK, hD0, hSE⟩ := hv
  have hx := B.exec
  have hb := B.bytes
  have hrt := B.returns
  have hts := atoms_spec (ws := vmX12_readListed) B.pre
  have hown : s.vm.findClass RX12 = some m.cls := findClass_of_methodNamed B.named
  subst hsz
  have hD := hD0.self (sz := s.heap.size)
  generalize hAe : va_A (mW h0 kB kI kZ q g F) s.heap.size = A at hD hSE ⊢
  have hA : ∀ q : Nat, s.heap.size ≤ q → A q := fun q h => by rw [← hAe]; exact Or.inr h
  have hS : va_S A s.heap s.heap [] := va_S.rf
  have hl := lv_entry ([.ref h0, .int p0]) (n := 4) (Nat.le_of_ble_eq_true rfl)
  rw [lg_entry_eq]
  generalize (lg_sl ([.ref h0, .int p0]) ++ List.replicate (4 - (lg_sl ([.ref h0, .int p0])).length) Slot.unset).toArray = ls at hl ⊢
  exact bm_readListed p0 r c_g3 c_g4 c_g5 c_g6 c_g7 c_g8 c_F13 c_F20 c_F21 hr hx hb hml hown hts hA hK hSE hP hD hS hl (fun pc ls rz c_g3z c_g4z c_g5z c_g6z c_g7z c_g8z c_F13z c_F20z c_F21z H locs he hz hd hP hD hS => by cases he; exact W.zret (v := r) hx hb hrt (z_nb hz) (fun t ht hW => ⟨⟨r, (), rfl, rfl, by rw [ht]; exact hP, va_K.moved hW.alike hK, hD⟩, hS.F ht⟩) hS.2.2 hd)
set_option maxHeartbeats 4000000 in
set_option maxRecDepth 100000 in
theorem bm_readPart {p : Program} {l : Launch} {e : Env} {s : State} {m : MethodId} {args : Array Value} {below : List Frame} {meth : Method} {c : Code} {Q : State → Prop} {A : Nat → Prop} {dC : Nat → ClassId} {dI : Nat → Nat → Nat} {h0 : Nat} {kB kI kZ : ClassId} {q : Nat → Nat} {g : Nat → Int32} {F : Nat → Nat → Int32} {H : Heap} {locs : List Loc} {ls : Array Slot} (r : Int32) (c_g3 : Int32) (c_g4 : Int32) (c_g5 : Int32) (c_g6 : Int32) (c_g7 : Int32) (c_g8 : Int32) (c_F12 : (Nat → Int32)) (c_F18 : (Nat → Int32)) (c_F19 : (Nat → Int32)) (hr : f_readPart g F = some (r, c_g3, c_g4, c_g5, c_g6, c_g7, c_g8, c_F12, c_F18, c_F19)) (hx : p.tables.exec = Jvm.exec) (hb : c.code = cX12_readPart) (hml : c.maxLocals = 3) (hown : s.vm.findClass RX12 = some m.cls) (hts : ∀ w ∈ vmX12_readPart, w.before args s = true) (hA : ∀ q : Nat, s.heap.size ≤ q → A q) (hK : va_K (dC, dI) vwCl (mT kB kI kZ) s) {adK adV : Nat → Nat} (hSE : SE adK adV A s) (hP : va_P (dC, dI) vwCl (mW h0 kB kI kZ q g F) H) (hD : va_D A (mW h0 kB kI kZ q g F)) (hS : va_S A s.heap H locs) (hl : lv_has ls 3 [(0, .ref h0)])
    (K : ∀ (pc : Nat) (ls : Array Slot) (rz : Int32) (c_g3z : Int32) (c_g4z : Int32) (c_g5z : Int32) (c_g6z : Int32) (c_g7z : Int32) (c_g8z : Int32) (c_F12z : (Nat → Int32)) (c_F18z : (Nat → Int32)) (c_F19z : (Nat → Int32)) (H : Heap) (locs : List Loc), some (rz, c_g3z, c_g4z, c_g5z, c_g6z, c_g7z, c_g8z, c_F12z, c_F18z, c_F19z) = some (r, c_g3, c_g4, c_g5, c_g6, c_g7, c_g8, c_F12, c_F18, c_F19) → is01 rz → decode cX12_readPart pc = .ok (.ireturn, 1) → va_P (dC, dI) vwCl (mW h0 kB kI kZ q (upd (upd (upd (upd (upd (upd g 3 c_g3z) 4 c_g4z) 5 c_g5z) 6 c_g6z) 7 c_g7z) 8 c_g8z) (upF (upF (upF F 12 c_F12z) 18 c_F18z) 19 c_F19z)) H → va_D A (mW h0 kB kI kZ q (upd (upd (upd (upd (upd (upd g 3 c_g3z) 4 c_g4z) 5 c_g5z) 6 c_g6z) 7 c_g7z) 8 c_g8z) (upF (upF (upF F 12 c_F12z) 18 c_F18z) 19 c_F19z)) → va_S A s.heap H locs → W p l e ({ frames := 8, cells := 0, slots := 0, locals := 390 } : Room) s m args below meth c H locs 0 0 Q (F0 m pc ls [.int rz])) : W p l e ({ frames := 8, cells := 0, slots := 0, locals := 390 } : Room) s m args below meth c H locs 0 0 Q (F0 m 0 ls []) := by
  unfold f_readPart at hr
  refine lv_aload_n hx hb dX12_readPart_0 rfl (lv_at hl 0 rfl) ?_
  refine va_get (D := (dC, dI)) (ci := 12) (v := .ref (q 12)) (C := RX12) (T := TX12) (N := 71) hx hb hts inX12 hown hK hP 0 rfl rfl 12 (by decide) (hts (.fieldLink RX12 24 "SpellTurnerModel" "parts" "[I") im_56) (fun _ h9 => h9) rfl dX12_readPart_1 ?_
  refine lv_bipush (v := 6) hx hb dX12_readPart_4 (by decide +kernel) ?_
  replace hr := iteS hr
  obtain ⟨hi6, hr⟩ := hr
  refine va_iald (f := (F 12)) hx hb hK hP 4 1 rfl rfl (inbV hi6) dX12_readPart_6 ?_
  refine lv_bipush (v := 40) hx hb dX12_readPart_7 (by decide +kernel) ?_
  refine lv_icmp_ne (tgt := 18) hx hb dX12_readPart_9 (by decide) (fun c9 => ?_) (fun c9 => ?_)
  · replace hr := iteF c9 hr
    refine lv_aload_n hx hb dX12_readPart_18 rfl (lv_at hl 0 rfl) ?_
    replace hr := b4S hr
    obtain ⟨c19_g3, c19_g4, c19_g5, c19_g6, hc19, hr⟩ := hr
    have hFc := fr_all hD hS hA
    refine va_callv (va_runV (As := []) (rest := []) ⟨hx, hb, hml, hown, hts⟩ (m_scan l dC dI adK adV H.size h0 kB kI kZ q g F c19_g3 c19_g4 c19_g5 c19_g6 hc19) (cwV 0 hts gw_X12_scan_200 rfl rfl rfl (by decide +kernel) ⟨Nat.le_of_ble_eq_true rfl, Nat.le_of_ble_eq_true rfl⟩) ⟨fun a U g mk q => by obtain ⟨q0, q1, qP, qK, qD, qS⟩ := q; exact ⟨q0, q1, qP, va_K.moved (u := U) (U := U.calling g mk a) (Vm.Alike.refl U.vm) qK, qD, qS.calling⟩, va_recv hK hP (ci := 12) (q0 := 0) rfl rfl, fun U hU hW => ⟨rfl, by rw [hU], by rw [hU]; exact hP, va_K.moved hW.alike hK, hD.weaken (fun _ _ _ _ => trivial), (hSE.warm hS hU hW).narrow hFc⟩⟩ rfl rfl hl.1 rfl (lv_room (Nat.le_of_ble_eq_true rfl)) dX12_readPart_19 ⟨Nat.le_of_ble_eq_true rfl, Nat.le_of_ble_eq_true rfl⟩) hS (fun q _ h => hFc q h) hFc (fun u t H1 locs ht hvm hw hB hz1 hk1 hS => ?_)
    obtain ⟨hP1, hK1, hD1⟩ := hB
    rw [ht] at hP1
    obtain ⟨hP, hD⟩ := jn_all (w1 := (mW h0 kB kI kZ q (upd (upd (upd (upd g 3 c19_g3) 4 c19_g4) 5 c19_g5) 6 c19_g6) F)) hFc hP1 hD1
    clear hFc hP1 hK1 hD1 hk1 hz1 ht hvm
    generalize H1 = H at hP hS ⊢
    have hP : va_P (dC, dI) vwCl (mW h0 kB kI kZ q (upd (upd (upd (upd g 3 c19_g3) 4 c19_g4) 5 c19_g5) 6 c19_g6) F) H := hP
    have hD : va_D A (mW h0 kB kI kZ q (upd (upd (upd (upd g 3 c19_g3) 4 c19_g4) 5 c19_g5) 6 c19_g6) F) := hD
    refine lv_sipush (v := 240) hx hb dX12_readPart_22 (by decide +kernel) ?_
    refine lv_aload_n hx hb dX12_readPart_25 rfl (lv_at hl 0 rfl) ?_
    refine va_get (D := (dC, dI)) (ci := 12) (v := .ref (q 12)) (C := RX12) (T := TX12) (N := 71) hx hb hts inX12 hown hK hP 0 rfl rfl 12 (by decide) (hts (.fieldLink RX12 24 "SpellTurnerModel" "parts" "[I") im_56) (fun _ h9 => h9) rfl dX12_readPart_26 ?_
    refine lv_bipush (v := 6) hx hb dX12_readPart_29 (by decide +kernel) ?_
    replace hr := iteS hr
    obtain ⟨hi31, hr⟩ := hr
    refine va_iald (f := (F 12)) hx hb hK hP 4 1 rfl rfl (inbV hi31) dX12_readPart_31 ?_
    refine lv_iadd hx hb dX12_readPart_32 ?_
    refine lv_topi (fun x33 ex33 => ?_)
    replace hr := vlS hr x33 ex33
    clear ex33
    refine lv_istore_n (lv' := [(1, .int x33), (0, .ref h0)]) hx hb dX12_readPart_33 rfl hl (by decide) rfl (fun ls hl => ?_)
    refine lv_aload_n hx hb dX12_readPart_34 rfl (lv_at hl 1 rfl) ?_
    refine lv_aload_n hx hb dX12_readPart_35 rfl (lv_at hl 1 rfl) ?_
    refine va_get (D := (dC, dI)) (ci := 12) (v := .ref (q 18)) (C := RX12) (T := TX12) (N := 71) hx hb hts inX12 hown hK hP 0 rfl rfl 18 (by decide) (hts (.fieldLink RX12 43 "SpellTurnerModel" "partText" "[B") im_58) (fun _ h9 => h9) rfl dX12_readPart_36 ?_
    refine lv_aload_n hx hb dX12_readPart_39 rfl (lv_at hl 1 rfl) ?_
    refine va_get (D := (dC, dI)) (ci := 12) (v := .ref (q 19)) (C := RX12) (T := TX12) (N := 71) hx hb hts inX12 hown hK hP 0 rfl rfl 19 (by decide) (hts (.fieldLink RX12 46 "SpellTurnerModel" "partSize" "[I") im_57) (fun _ h9 => h9) rfl dX12_readPart_40 ?_
    refine lv_iload_n hx hb dX12_readPart_43 rfl (lv_at hl 0 rfl) ?_
    refine lv_iconst (v := 1) hx hb dX12_readPart_44 (by decide +kernel) ?_
    replace hr := b5S hr
    obtain ⟨r45z, c45_g7, c45_g8, c45_F18, c45_F19, hc45, hr⟩ := hr
    have hFc := fr_all hD hS hA
    refine va_calli (va_runV (As := [.ref (q 18), .ref (q 19), .int x33, .int 1]) (rest := []) ⟨hx, hb, hml, hown, hts⟩ (m_take_18_19 l dC dI H.size h0 kB kI kZ q (upd (upd (upd (upd g 3 c19_g3) 4 c19_g4) 5 c19_g5) 6 c19_g6) F x33 1 r45z c45_g7 c45_g8 c45_F18 c45_F19 hc45) (cwV 4 hts gw_X12_take_203 rfl rfl rfl (by decide +kernel) ⟨Nat.le_of_ble_eq_true rfl, Nat.le_of_ble_eq_true rfl⟩) ⟨fun a U g mk q => by obtain ⟨q0, q1, qP, qK, qD⟩ := q; exact ⟨q0, q1, qP, va_K.moved (u := U) (U := U.calling g mk a) (Vm.Alike.refl U.vm) qK, qD⟩, va_recv hK hP (ci := 12) (q0 := 0) rfl rfl, fun U hU hW => ⟨rfl, by rw [hU], by rw [hU]; exact hP, va_K.moved hW.alike hK, hD.weaken (fun _ _ _ _ => trivial)⟩⟩ rfl rfl hl.1 rfl (lv_room (Nat.le_of_ble_eq_true rfl)) dX12_readPart_45 ⟨Nat.le_of_ble_eq_true rfl, Nat.le_of_ble_eq_true rfl⟩) hS (fun q _ h => hFc q h) hFc (fun r45 u t H1 locs ht hvm hw hB hz1 hk1 hS => ?_)
    replace hw : r45 = r45z := hw
    subst hw
    obtain ⟨hP1, hK1, hD1⟩ := hB
    rw [ht] at hP1
    obtain ⟨hP, hD⟩ := jn_all (w1 := (mW h0 kB kI kZ q (upd (upd (upd (upd (upd (upd g 3 c19_g3) 4 c19_g4) 5 c19_g5) 6 c19_g6) 7 c45_g7) 8 c45_g8) (upF (upF F 18 c45_F18) 19 c45_F19))) hFc hP1 hD1
    clear hFc hP1 hK1 hD1 hk1 hz1 ht hvm
    generalize H1 = H at hP hS ⊢
    have hP : va_P (dC, dI) vwCl (mW h0 kB kI kZ q (upd (upd (upd (upd (upd (upd g 3 c19_g3) 4 c19_g4) 5 c19_g5) 6 c19_g6) 7 c45_g7) 8 c45_g8) (upF (upF F 18 c45_F18) 19 c45_F19)) H := hP
    have hD : va_D A (mW h0 kB kI kZ q (upd (upd (upd (upd (upd (upd g 3 c19_g3) 4 c19_g4) 5 c19_g5) 6 c19_g6) 7 c45_g7) 8 c45_g8) (upF (upF F 18 c45_F18) 19 c45_F19)) := hD
    refine lv_if_ne (tgt := 53) hx hb dX12_readPart_48 (by decide) (fun c48 => ?_) (fun c48 => ?_)
    · replace hr := iteF c48 hr
      refine lv_sipush (v := 240) hx hb dX12_readPart_53 (by decide +kernel) ?_
      refine lv_istore_n (lv' := [(2, .int 240), (1, .int x33), (0, .ref h0)]) hx hb dX12_readPart_56 rfl hl (by decide) rfl (fun ls hl => ?_)
      have lp57 : ∀ (n57 : Nat) (y57_2 : Int32) (H : Heap) (locs : List Loc) (ls : Array Slot), L_readPart_57 g F c19_g3 c19_g4 c19_g5 c19_g6 x33 c45_g7 c45_g8 c45_F18 c45_F19 n57 y57_2 = some (r, c_g3, c_g4, c_g5, c_g6, c_g7, c_g8, c_F12, c_F18, c_F19) → va_P (dC, dI) vwCl (mW h0 kB kI kZ q (upd (upd (upd (upd (upd (upd g 3 c19_g3) 4 c19_g4) 5 c19_g5) 6 c19_g6) 7 c45_g7) 8 c45_g8) (upF (upF F 18 c45_F18) 19 c45_F19)) H → va_D A (mW h0 kB kI kZ q (upd (upd (upd (upd (upd (upd g 3 c19_g3) 4 c19_g4) 5 c19_g5) 6 c19_g6) 7 c45_g7) 8 c45_g8) (upF (upF F 18 c45_F18) 19 c45_F19)) → va_S A s.heap H locs → lv_has ls 3 [(0, .ref h0), (1, .int x33), (2, .int y57_2)] → W p l e ({ frames := 8, cells := 0, slots := 0, locals := 390 } : Room) s m args below meth c H locs 0 0 Q (F0 m 57 ls []) := by
        intro n57
        induction n57 with
        | zero => intro y57_2 H locs ls hr; exact nomatch (show none = some (r, c_g3, c_g4, c_g5, c_g6, c_g7, c_g8, c_F12, c_F18, c_F19) from hr)
        | succ n57 ih57 =>
          intro y57_2 H locs ls hr hP hD hS hl
          replace hr : B_readPart_57 g F c19_g3 c19_g4 c19_g5 c19_g6 x33 c45_g7 c45_g8 c45_F18 c45_F19 (L_readPart_57 g F c19_g3 c19_g4 c19_g5 c19_g6 x33 c45_g7 c45_g8 c45_F18 c45_F19 n57) y57_2 = some (r, c_g3, c_g4, c_g5, c_g6, c_g7, c_g8, c_F12, c_F18, c_F19) := hr
          unfold B_readPart_57 at hr
          refine lv_iload_n hx hb dX12_readPart_57 rfl (lv_at hl 2 rfl) ?_
          refine lv_iload_n hx hb dX12_readPart_58 rfl (lv_at hl 1 rfl) ?_
          refine lv_icmp_ge (tgt := 90) hx hb dX12_readPart_59 (by decide) (fun c59 => ?_) (fun c59 => ?_)
          · replace hr := iteT c59 hr
            refine lv_aload_n hx hb dX12_readPart_90 rfl (lv_at hl 0 rfl) ?_
            refine va_get (D := (dC, dI)) (ci := 12) (v := .ref (q 12)) (C := RX12) (T := TX12) (N := 71) hx hb hts inX12 hown hK hP 0 rfl rfl 12 (by decide) (hts (.fieldLink RX12 24 "SpellTurnerModel" "parts" "[I") im_56) (fun _ h9 => h9) rfl dX12_readPart_91 ?_
            refine lv_bipush (v := 6) hx hb dX12_readPart_94 (by decide +kernel) ?_
            refine lv_dup2_11 hx hb dX12_readPart_96 rfl rfl ?_
            replace hr := iteS hr
            obtain ⟨hi97, hr⟩ := hr
            refine va_iald (f := (F 12)) hx hb hK hP 4 1 rfl rfl (inbV hi97) dX12_readPart_97 ?_
            refine lv_iconst (v := 1) hx hb dX12_readPart_98 (by decide +kernel) ?_
            refine lv_iadd hx hb dX12_readPart_99 ?_
            replace hr := iteS hr
            obtain ⟨hi100, hr⟩ := hr
            refine va_iast (f := (F 12)) hx hb hK hP hD hS 4 1 rfl rfl (inbV hi100) dX12_readPart_100 (fun H locs hP hD hS => ?_)
            obtain ⟨w100, ew100, hP, hD⟩ : ∃ w100 : Nat → Int32, w100 = (upd (F 12) (Int32.toNatClampNeg 6) (((F 12) (Int32.toNatClampNeg 6)) + 1)) ∧ va_P (dC, dI) vwCl (mW h0 kB kI kZ q (upd (upd (upd (upd (upd (upd g 3 c19_g3) 4 c19_g4) 5 c19_g5) 6 c19_g6) 7 c45_g7) 8 c45_g8) (upF (upF (upF F 12 w100) 18 c45_F18) 19 c45_F19)) H ∧ va_D A (mW h0 kB kI kZ q (upd (upd (upd (upd (upd (upd g 3 c19_g3) 4 c19_g4) 5 c19_g5) 6 c19_g6) 7 c45_g7) 8 c45_g8) (upF (upF (upF F 12 w100) 18 c45_F18) 19 c45_F19)) := ⟨(upd (F 12) (Int32.toNatClampNeg 6) (((F 12) (Int32.toNatClampNeg 6)) + 1)), rfl, by first | exact sP_F12 hP (upF_in (by decide) (upF_in (by decide) rfl)) | exact sP_F12 hP (upF_in (by decide) (upF_in (by decide) upF_same)) | exact hP, by first | exact sD_F12 hD (upF_in (by decide) (upF_in (by decide) rfl)) | exact sD_F12 hD (upF_in (by decide) (upF_in (by decide) upF_same)) | exact hD⟩
            replace hr := vlS hr w100 ew100
            clear ew100
            refine lv_aload_n hx hb dX12_readPart_101 rfl (lv_at hl 0 rfl) ?_
            replace hr := b4S hr
            obtain ⟨c102_g3, c102_g4, c102_g5, c102_g6, hc102, hr⟩ := hr
            have hFc := fr_all hD hS hA
            refine va_callv (va_runV (As := []) (rest := []) ⟨hx, hb, hml, hown, hts⟩ (m_scan l dC dI adK adV H.size h0 kB kI kZ q (upd (upd (upd (upd (upd (upd g 3 c19_g3) 4 c19_g4) 5 c19_g5) 6 c19_g6) 7 c45_g7) 8 c45_g8) (upF (upF (upF F 12 w100) 18 c45_F18) 19 c45_F19) c102_g3 c102_g4 c102_g5 c102_g6 hc102) (cwV 0 hts gw_X12_scan_200 rfl rfl rfl (by decide +kernel) ⟨Nat.le_of_ble_eq_true rfl, Nat.le_of_ble_eq_true rfl⟩) ⟨fun a U g mk q => by obtain ⟨q0, q1, qP, qK, qD, qS⟩ := q; exact ⟨q0, q1, qP, va_K.moved (u := U) (U := U.calling g mk a) (Vm.Alike.refl U.vm) qK, qD, qS.calling⟩, va_recv hK hP (ci := 12) (q0 := 0) rfl rfl, fun U hU hW => ⟨rfl, by rw [hU], by rw [hU]; exact hP, va_K.moved hW.alike hK, hD.weaken (fun _ _ _ _ => trivial), (hSE.warm hS hU hW).narrow hFc⟩⟩ rfl rfl hl.1 rfl (lv_room (Nat.le_of_ble_eq_true rfl)) dX12_readPart_102 ⟨Nat.le_of_ble_eq_true rfl, Nat.le_of_ble_eq_true rfl⟩) hS (fun q _ h => hFc q h) hFc (fun u t H1 locs ht hvm hw hB hz1 hk1 hS => ?_)
            obtain ⟨hP1, hK1, hD1⟩ := hB
            rw [ht] at hP1
            obtain ⟨hP, hD⟩ := jn_all (w1 := (mW h0 kB kI kZ q (upd (upd (upd (upd (upd (upd g 3 c102_g3) 4 c102_g4) 5 c102_g5) 6 c102_g6) 7 c45_g7) 8 c45_g8) (upF (upF (upF F 12 w100) 18 c45_F18) 19 c45_F19))) hFc hP1 hD1
            clear hFc hP1 hK1 hD1 hk1 hz1 ht hvm
            generalize H1 = H at hP hS ⊢
            have hP : va_P (dC, dI) vwCl (mW h0 kB kI kZ q (upd (upd (upd (upd (upd (upd g 3 c102_g3) 4 c102_g4) 5 c102_g5) 6 c102_g6) 7 c45_g7) 8 c45_g8) (upF (upF (upF F 12 w100) 18 c45_F18) 19 c45_F19)) H := hP
            have hD : va_D A (mW h0 kB kI kZ q (upd (upd (upd (upd (upd (upd g 3 c102_g3) 4 c102_g4) 5 c102_g5) 6 c102_g6) 7 c45_g7) 8 c45_g8) (upF (upF (upF F 12 w100) 18 c45_F18) 19 c45_F19)) := hD
            refine lv_iconst (v := 1) hx hb dX12_readPart_105 (by decide +kernel) ?_
            first | exact K 106 ls _ _ _ _ _ _ _ _ _ _ H _ hr (by decide) dX12_readPart_106 (sP_eq (mW_cg (by repeat (first | with_reducible rfl | with_reducible refine upd_cg ?_ | refine Eq.trans ?_ (upd_id rfl))) (by repeat (first | with_reducible rfl | with_reducible refine upF_cg ?_ | refine Eq.trans ?_ (upF_id rfl)))) hP) (sD_eq (mW_cg (by repeat (first | with_reducible rfl | with_reducible refine upd_cg ?_ | refine Eq.trans ?_ (upd_id rfl))) (by repeat (first | with_reducible rfl | with_reducible refine upF_cg ?_ | refine Eq.trans ?_ (upF_id rfl)))) hD) hS | exact K 106 ls _ _ _ _ _ _ _ _ _ _ H _ hr (by decide) dX12_readPart_106 hP hD hS
          · replace hr := iteF c59 hr
            refine lv_aload_n hx hb dX12_readPart_62 rfl (lv_at hl 0 rfl) ?_
            refine va_get (D := (dC, dI)) (ci := 12) (v := .ref (q 18)) (C := RX12) (T := TX12) (N := 71) hx hb hts inX12 hown hK hP 0 rfl rfl 18 (by decide) (hts (.fieldLink RX12 43 "SpellTurnerModel" "partText" "[B") im_58) (fun _ h9 => h9) rfl dX12_readPart_63 ?_
            refine lv_aload_n hx hb dX12_readPart_66 rfl (lv_at hl 0 rfl) ?_
            refine va_get (D := (dC, dI)) (ci := 12) (v := .ref (q 19)) (C := RX12) (T := TX12) (N := 71) hx hb hts inX12 hown hK hP 0 rfl rfl 19 (by decide) (hts (.fieldLink RX12 46 "SpellTurnerModel" "partSize" "[I") im_57) (fun _ h9 => h9) rfl dX12_readPart_67 ?_
            refine lv_iload_n hx hb dX12_readPart_70 rfl (lv_at hl 2 rfl) ?_
            refine lv_iload_n hx hb dX12_readPart_71 rfl (lv_at hl 1 rfl) ?_
            replace hr := b1S hr
            obtain ⟨r72z, hc72, hr⟩ := hr
            have hFc := fr_all hD hS hA
            refine va_calli (va_runS (As := [.ref (q 18), .ref (q 19), .int y57_2, .int x33]) (rest := []) ⟨hx, hb, hml, hown, hts⟩ (m_same_18_19 l dC dI H.size h0 kB kI kZ q (upd (upd (upd (upd (upd (upd g 3 c19_g3) 4 c19_g4) 5 c19_g5) 6 c19_g6) 7 c45_g7) 8 c45_g8) (upF (upF F 18 c45_F18) 19 c45_F19) y57_2 x33 r72z hc72) (va_cwS 4 hts gw_X12_same_207 rfl rfl rfl (by decide +kernel) ⟨Nat.le_of_ble_eq_true rfl, Nat.le_of_ble_eq_true rfl⟩) ⟨fun a U g mk q => by obtain ⟨q0, q1, qP, qK, qD⟩ := q; exact ⟨q0, q1, qP, va_K.moved (u := U) (U := U.calling g mk a) (Vm.Alike.refl U.vm) qK, qD⟩, fun U hU hW => ⟨rfl, by rw [hU], by rw [hU]; exact hP, va_K.moved hW.alike hK, hD.weaken (fun _ _ _ _ => trivial)⟩⟩ rfl rfl hl.1 rfl (lv_room (Nat.le_of_ble_eq_true rfl)) dX12_readPart_72 ⟨Nat.le_of_ble_eq_true rfl, Nat.le_of_ble_eq_true rfl⟩) hS (fun q _ h => hFc q h) hFc (fun r72 u t H1 locs ht hvm hw hB hz1 hk1 hS => ?_)
            replace hw : r72 = r72z := hw
            subst hw
            obtain ⟨hP1, hK1, hD1⟩ := hB
            rw [ht] at hP1
            obtain ⟨hP, hD⟩ := jn_all (w1 := (mW h0 kB kI kZ q (upd (upd (upd (upd (upd (upd g 3 c19_g3) 4 c19_g4) 5 c19_g5) 6 c19_g6) 7 c45_g7) 8 c45_g8) (upF (upF F 18 c45_F18) 19 c45_F19))) hFc hP1 hD1
            clear hFc hP1 hK1 hD1 hk1 hz1 ht hvm
            generalize H1 = H at hP hS ⊢
            have hP : va_P (dC, dI) vwCl (mW h0 kB kI kZ q (upd (upd (upd (upd (upd (upd g 3 c19_g3) 4 c19_g4) 5 c19_g5) 6 c19_g6) 7 c45_g7) 8 c45_g8) (upF (upF F 18 c45_F18) 19 c45_F19)) H := hP
            have hD : va_D A (mW h0 kB kI kZ q (upd (upd (upd (upd (upd (upd g 3 c19_g3) 4 c19_g4) 5 c19_g5) 6 c19_g6) 7 c45_g7) 8 c45_g8) (upF (upF F 18 c45_F18) 19 c45_F19)) := hD
            refine lv_if_eq (tgt := 84) hx hb dX12_readPart_75 (by decide) (fun c75 => ?_) (fun c75 => ?_)
            · replace hr := iteT c75 hr
              refine lv_iinc (v := (y57_2 + 1)) (lv' := [(2, .int (y57_2 + 1)), (0, .ref h0), (1, .int x33)]) hx hb dX12_readPart_84 hl (k := 2) rfl rfl (by decide) rfl (fun ls hl => ?_)
              refine lv_goto (tgt := 57) hx hb dX12_readPart_87 (by decide) ?_
              exact ih57 (y57_2 + 1) H _ ls hr hP hD hS (lv_sub hl [1, 2, 0] rfl)
            · replace hr := iteF c75 hr
              refine lv_aload_n hx hb dX12_readPart_78 rfl (lv_at hl 0 rfl) ?_
              refine lv_iconst (v := 3) hx hb dX12_readPart_79 (by decide +kernel) ?_
              replace hr := b3S hr
              obtain ⟨r80z, c80_g7, c80_g8, hc80, hr⟩ := hr
              have hFc := fr_all hD hS hA
              refine va_calli (va_runV (As := [.int 3]) (rest := []) ⟨hx, hb, hml, hown, hts⟩ (m_wrong l dC dI H.size h0 kB kI kZ q (upd (upd (upd (upd (upd (upd g 3 c19_g3) 4 c19_g4) 5 c19_g5) 6 c19_g6) 7 c45_g7) 8 c45_g8) (upF (upF F 18 c45_F18) 19 c45_F19) 3 r80z c80_g7 c80_g8 hc80) (cwV 1 hts gw_X12_wrong_197 rfl rfl rfl (by decide +kernel) ⟨Nat.le_of_ble_eq_true rfl, Nat.le_of_ble_eq_true rfl⟩) ⟨fun a U g mk q => by obtain ⟨q0, q1, qP, qK, qD⟩ := q; exact ⟨q0, q1, qP, va_K.moved (u := U) (U := U.calling g mk a) (Vm.Alike.refl U.vm) qK, qD⟩, va_recv hK hP (ci := 12) (q0 := 0) rfl rfl, fun U hU hW => ⟨rfl, by rw [hU], by rw [hU]; exact hP, va_K.moved hW.alike hK, hD.weaken (fun _ _ _ _ => trivial)⟩⟩ rfl rfl hl.1 rfl (lv_room (Nat.le_of_ble_eq_true rfl)) dX12_readPart_80 ⟨Nat.le_of_ble_eq_true rfl, Nat.le_of_ble_eq_true rfl⟩) hS (fun q _ h => hFc q h) hFc (fun r80 u t H1 locs ht hvm hw hB hz1 hk1 hS => ?_)
              replace hw : r80 = r80z := hw
              subst hw
              obtain ⟨hP1, hK1, hD1⟩ := hB
              rw [ht] at hP1
              obtain ⟨hP, hD⟩ := jn_all (w1 := (mW h0 kB kI kZ q (upd (upd (upd (upd (upd (upd g 3 c19_g3) 4 c19_g4) 5 c19_g5) 6 c19_g6) 7 c80_g7) 8 c80_g8) (upF (upF F 18 c45_F18) 19 c45_F19))) hFc hP1 hD1
              clear hFc hP1 hK1 hD1 hk1 hz1 ht hvm
              generalize H1 = H at hP hS ⊢
              have hP : va_P (dC, dI) vwCl (mW h0 kB kI kZ q (upd (upd (upd (upd (upd (upd g 3 c19_g3) 4 c19_g4) 5 c19_g5) 6 c19_g6) 7 c80_g7) 8 c80_g8) (upF (upF F 18 c45_F18) 19 c45_F19)) H := hP
              have hD : va_D A (mW h0 kB kI kZ q (upd (upd (upd (upd (upd (upd g 3 c19_g3) 4 c19_g4) 5 c19_g5) 6 c19_g6) 7 c80_g7) 8 c80_g8) (upF (upF F 18 c45_F18) 19 c45_F19)) := hD
              replace hr := iteS hr
              obtain ⟨hz83, hr⟩ := hr
              first | exact K 83 ls _ _ _ _ _ _ _ _ _ _ H _ hr hz83 dX12_readPart_83 (sP_eq (mW_cg (by repeat (first | with_reducible rfl | with_reducible refine upd_cg ?_ | refine Eq.trans ?_ (upd_id rfl))) (by repeat (first | with_reducible rfl | with_reducible refine upF_cg ?_ | refine Eq.trans ?_ (upF_id rfl)))) hP) (sD_eq (mW_cg (by repeat (first | with_reducible rfl | with_reducible refine upd_cg ?_ | refine Eq.trans ?_ (upd_id rfl))) (by repeat (first | with_reducible rfl | with_reducible refine upF_cg ?_ | refine Eq.trans ?_ (upF_id rfl)))) hD) hS | exact K 83 ls _ _ _ _ _ _ _ _ _ _ H _ hr hz83 dX12_readPart_83 hP hD hS
      exact lp57 NN 240 H _ ls hr hP hD hS (lv_sub hl [2, 1, 0] rfl)
    · replace hr := iteT c48 hr
      refine lv_iconst (v := 0) hx hb dX12_readPart_51 (by decide +kernel) ?_
      first | exact K 52 ls _ _ _ _ _ _ _ _ _ _ H _ hr (by decide) dX12_readPart_52 (sP_eq (mW_cg (by repeat (first | with_reducible rfl | with_reducible refine upd_cg ?_ | refine Eq.trans ?_ (upd_id rfl))) (by repeat (first | with_reducible rfl | with_reducible refine upF_cg ?_ | refine Eq.trans ?_ (upF_id rfl)))) hP) (sD_eq (mW_cg (by repeat (first | with_reducible rfl | with_reducible refine upd_cg ?_ | refine Eq.trans ?_ (upd_id rfl))) (by repeat (first | with_reducible rfl | with_reducible refine upF_cg ?_ | refine Eq.trans ?_ (upF_id rfl)))) hD) hS | exact K 52 ls _ _ _ _ _ _ _ _ _ _ H _ hr (by decide) dX12_readPart_52 hP hD hS
  · replace hr := iteT c9 hr
    refine lv_aload_n hx hb dX12_readPart_12 rfl (lv_at hl 0 rfl) ?_
    refine lv_iconst (v := 4) hx hb dX12_readPart_13 (by decide +kernel) ?_
    replace hr := b3S hr
    obtain ⟨r14z, c14_g7, c14_g8, hc14, hr⟩ := hr
    have hFc := fr_all hD hS hA
    refine va_calli (va_runV (As := [.int 4]) (rest := []) ⟨hx, hb, hml, hown, hts⟩ (m_wrong l dC dI H.size h0 kB kI kZ q g F 4 r14z c14_g7 c14_g8 hc14) (cwV 1 hts gw_X12_wrong_197 rfl rfl rfl (by decide +kernel) ⟨Nat.le_of_ble_eq_true rfl, Nat.le_of_ble_eq_true rfl⟩) ⟨fun a U g mk q => by obtain ⟨q0, q1, qP, qK, qD⟩ := q; exact ⟨q0, q1, qP, va_K.moved (u := U) (U := U.calling g mk a) (Vm.Alike.refl U.vm) qK, qD⟩, va_recv hK hP (ci := 12) (q0 := 0) rfl rfl, fun U hU hW => ⟨rfl, by rw [hU], by rw [hU]; exact hP, va_K.moved hW.alike hK, hD.weaken (fun _ _ _ _ => trivial)⟩⟩ rfl rfl hl.1 rfl (lv_room (Nat.le_of_ble_eq_true rfl)) dX12_readPart_14 ⟨Nat.le_of_ble_eq_true rfl, Nat.le_of_ble_eq_true rfl⟩) hS (fun q _ h => hFc q h) hFc (fun r14 u t H1 locs ht hvm hw hB hz1 hk1 hS => ?_)
    replace hw : r14 = r14z := hw
    subst hw
    obtain ⟨hP1, hK1, hD1⟩ := hB
    rw [ht] at hP1
    obtain ⟨hP, hD⟩ := jn_all (w1 := (mW h0 kB kI kZ q (upd (upd g 7 c14_g7) 8 c14_g8) F)) hFc hP1 hD1
    clear hFc hP1 hK1 hD1 hk1 hz1 ht hvm
    generalize H1 = H at hP hS ⊢
    have hP : va_P (dC, dI) vwCl (mW h0 kB kI kZ q (upd (upd g 7 c14_g7) 8 c14_g8) F) H := hP
    have hD : va_D A (mW h0 kB kI kZ q (upd (upd g 7 c14_g7) 8 c14_g8) F) := hD
    replace hr := iteS hr
    obtain ⟨hz17, hr⟩ := hr
    first | exact K 17 ls _ _ _ _ _ _ _ _ _ _ H _ hr hz17 dX12_readPart_17 (sP_eq (mW_cg (by repeat (first | with_reducible rfl | with_reducible refine upd_cg ?_ | refine Eq.trans ?_ (upd_id rfl))) (by repeat (first | with_reducible rfl | with_reducible refine upF_cg ?_ | refine Eq.trans ?_ (upF_id rfl)))) hP) (sD_eq (mW_cg (by repeat (first | with_reducible rfl | with_reducible refine upd_cg ?_ | refine Eq.trans ?_ (upd_id rfl))) (by repeat (first | with_reducible rfl | with_reducible refine upF_cg ?_ | refine Eq.trans ?_ (upF_id rfl)))) hD) hS | exact K 17 ls _ _ _ _ _ _ _ _ _ _ H _ hr hz17 dX12_readPart_17 hP hD hS
set_option maxHeartbeats 4000000 in
set_option maxRecDepth 100000 in
theorem m_readPart (l : Launch) (dC : Nat → ClassId) (dI : Nat → Nat → Nat) (adK adV : Nat → Nat) (sz : Nat) (h0 : Nat) (kB kI kZ : ClassId) (q : Nat → Nat) (g : Nat → Int32) (F : Nat → Nat → Int32) (r : Int32) (c_g3 : Int32) (c_g4 : Int32) (c_g5 : Int32) (c_g6 : Int32) (c_g7 : Int32) (c_g8 : Int32) (c_F12 : (Nat → Int32)) (c_F18 : (Nat → Int32)) (c_F19 : (Nat → Int32)) (hr : f_readPart g F = some (r, c_g3, c_g4, c_g5, c_g6, c_g7, c_g8, c_F12, c_F18, c_F19)) : Met l yX12_readPart vmX12_readPart ({ frames := 8, cells := 0, slots := 0, locals := 390 } : Room) (va_Pc [.ref h0] (fun U => U.heap.size = sz ∧ va_P (dC, dI) vwCl (mW h0 kB kI kZ q g F) U.heap ∧ va_K (dC, dI) vwCl (mT kB kI kZ) U ∧ va_D (fun _ => True) (mW h0 kB kI kZ q g F) ∧ SE adK adV (va_A (mW h0 kB kI kZ q g F) sz) U)) (va_Qi (fun (rz : Int32) (_ : Unit) => rz = r) (fun _ t => va_P (dC, dI) vwCl (mW h0 kB kI kZ q (upd (upd (upd (upd (upd (upd g 3 c_g3) 4 c_g4) 5 c_g5) 6 c_g6) 7 c_g7) 8 c_g8) (upF (upF (upF F 12 c_F12) 18 c_F18) 19 c_F19)) t.heap ∧ va_K (dC, dI) vwCl (mT kB kI kZ) t ∧ va_D (va_A (mW h0 kB kI kZ q g F) sz) (mW h0 kB kI kZ q (upd (upd (upd (upd (upd (upd g 3 c_g3) 4 c_g4) 5 c_g5) 6 c_g6) 7 c_g7) 8 c_g8) (upF (upF (upF F 12 c_F12) 18 c_F18) 19 c_F19))) (va_A (mW h0 kB kI kZ q g F) sz)) 0 0 (va_A (mW h0 kB kI kZ q g F) sz) := by
  refine Met.ofW (cc := cX12_readPart) (maxL := 3) (ret := (some .boolean)) (by decide) rfl ?_
  intro p e s m args below meth c s₁ B hml hv
  obtain ⟨rfl, hsz, hP, hK, hD0, hSE⟩ := hv
  have hx := B.exec
  have hb := B.bytes
  have hrt := B.returns
  have hts := atoms_spec (ws := vmX12_readPart) B.pre
  have hown : s.vm.findClass RX12 = some m.cls := findClass_of_methodNamed B.named
  subst hsz
  have hD := hD0.self (sz := s.heap.size)
  generalize hAe : va_A (mW h0 kB kI kZ q g F) s.heap.size = A at hD hSE ⊢
  have hA : ∀ q : Nat, s.heap.size ≤ q → A q := fun q h => by rw [← hAe]; exact Or.inr h
  have hS : va_S A s.heap s.heap [] := va_S.rf
  have hl := lv_entry ([.ref h0]) (n := 3) (Nat.le_of_ble_eq_true rfl)
  rw [lg_entry_eq]
  generalize (lg_sl ([.ref h0]) ++ List.replicate (3 - (lg_sl ([.ref h0])).length) Slot.unset).toArray = ls at hl ⊢
  exact bm_readPart r c_g3 c_g4 c_g5 c_g6 c_g7 c_g8 c_F12 c_F18 c_F19 hr hx hb hml hown hts hA hK hSE hP hD hS hl (fun pc ls rz c_g3z c_g4z c_g5z c_g6z c_g7z c_g8z c_F12z c_F18z c_F19z H locs he hz hd hP hD hS => by cases he; exact W.zret (v := r) hx hb hrt (z_nb hz) (fun t ht hW => ⟨⟨r, (), rfl, rfl, by rw [ht]; exact hP, va_K.moved hW.alike hK, hD⟩, hS.F ht⟩) hS.2.2 hd)
set_option maxHeartbeats 4000000 in
set_option maxRecDepth 100000 in
theorem bm_readLaw {p : Program} {l : Launch} {e : Env} {s : State} {m : MethodId} {args : Array Value} {below : List Frame} {meth : Method} {c : Code} {Q : State → Prop} {A : Nat → Prop} {dC : Nat → ClassId} {dI : Nat → Nat → Nat} {h0 : Nat} {kB kI kZ : ClassId} {q : Nat → Nat} {g : Nat → Int32} {F : Nat → Nat → Int32} {H : Heap} {locs : List Loc} {ls : Array Slot} (r : Int32) (c_g3 : Int32) (c_g4 : Int32) (c_g5 : Int32) (c_g6 : Int32) (c_g7 : Int32) (c_g8 : Int32) (c_F11 : (Nat → Int32)) (c_F14 : (Nat → Int32)) (c_F15 : (Nat → Int32)) (c_F16 : (Nat → Int32)) (c_F17 : (Nat → Int32)) (hr : f_readLaw g F = some (r, c_g3, c_g4, c_g5, c_g6, c_g7, c_g8, c_F11, c_F14, c_F15, c_F16, c_F17)) (hx : p.tables.exec = Jvm.exec) (hb : c.code = cX12_readLaw) (hml : c.maxLocals = 4) (hown : s.vm.findClass RX12 = some m.cls) (hts : ∀ w ∈ vmX12_readLaw, w.before args s = true) (hA : ∀ q : Nat, s.heap.size ≤ q → A q) (hK : va_K (dC, dI) vwCl (mT kB kI kZ) s) {adK adV : Nat → Nat} (hSE : SE adK adV A s) (hP : va_P (dC, dI) vwCl (mW h0 kB kI kZ q g F) H) (hD : va_D A (mW h0 kB kI kZ q g F)) (hS : va_S A s.heap H locs) (hl : lv_has ls 4 [(0, .ref h0)])
    (K : ∀ (pc : Nat) (ls : Array Slot) (rz : Int32) (c_g3z : Int32) (c_g4z : Int32) (c_g5z : Int32) (c_g6z : Int32) (c_g7z : Int32) (c_g8z : Int32) (c_F11z : (Nat → Int32)) (c_F14z : (Nat → Int32)) (c_F15z : (Nat → Int32)) (c_F16z : (Nat → Int32)) (c_F17z : (Nat → Int32)) (H : Heap) (locs : List Loc), some (rz, c_g3z, c_g4z, c_g5z, c_g6z, c_g7z, c_g8z, c_F11z, c_F14z, c_F15z, c_F16z, c_F17z) = some (r, c_g3, c_g4, c_g5, c_g6, c_g7, c_g8, c_F11, c_F14, c_F15, c_F16, c_F17) → is01 rz → decode cX12_readLaw pc = .ok (.ireturn, 1) → va_P (dC, dI) vwCl (mW h0 kB kI kZ q (upd (upd (upd (upd (upd (upd g 3 c_g3z) 4 c_g4z) 5 c_g5z) 6 c_g6z) 7 c_g7z) 8 c_g8z) (upF (upF (upF (upF (upF F 11 c_F11z) 14 c_F14z) 15 c_F15z) 16 c_F16z) 17 c_F17z)) H → va_D A (mW h0 kB kI kZ q (upd (upd (upd (upd (upd (upd g 3 c_g3z) 4 c_g4z) 5 c_g5z) 6 c_g6z) 7 c_g7z) 8 c_g8z) (upF (upF (upF (upF (upF F 11 c_F11z) 14 c_F14z) 15 c_F15z) 16 c_F16z) 17 c_F17z)) → va_S A s.heap H locs → W p l e ({ frames := 8, cells := 0, slots := 0, locals := 390 } : Room) s m args below meth c H locs 0 0 Q (F0 m pc ls [.int rz])) : W p l e ({ frames := 8, cells := 0, slots := 0, locals := 390 } : Room) s m args below meth c H locs 0 0 Q (F0 m 0 ls []) := by
  unfold f_readLaw at hr
  refine lv_aload_n hx hb dX12_readLaw_0 rfl (lv_at hl 0 rfl) ?_
  refine va_get (D := (dC, dI)) (ci := 12) (v := .ref (q 11)) (C := RX12) (T := TX12) (N := 71) hx hb hts inX12 hown hK hP 0 rfl rfl 11 (by decide) (hts (.fieldLink RX12 21 "SpellTurnerModel" "laws" "[I") im_61) (fun _ h9 => h9) rfl dX12_readLaw_1 ?_
  refine lv_bipush (v := 6) hx hb dX12_readLaw_4 (by decide +kernel) ?_
  replace hr := iteS hr
  obtain ⟨hi6, hr⟩ := hr
  refine va_iald (f := (F 11)) hx hb hK hP 3 1 rfl rfl (inbV hi6) dX12_readLaw_6 ?_
  refine lv_bipush (v := 40) hx hb dX12_readLaw_7 (by decide +kernel) ?_
  refine lv_icmp_ne (tgt := 18) hx hb dX12_readLaw_9 (by decide) (fun c9 => ?_) (fun c9 => ?_)
  · replace hr := iteF c9 hr
    refine lv_aload_n hx hb dX12_readLaw_18 rfl (lv_at hl 0 rfl) ?_
    replace hr := b4S hr
    obtain ⟨c19_g3, c19_g4, c19_g5, c19_g6, hc19, hr⟩ := hr
    have hFc := fr_all hD hS hA
    refine va_callv (va_runV (As := []) (rest := []) ⟨hx, hb, hml, hown, hts⟩ (m_scan l dC dI adK adV H.size h0 kB kI kZ q g F c19_g3 c19_g4 c19_g5 c19_g6 hc19) (cwV 0 hts gw_X12_scan_200 rfl rfl rfl (by decide +kernel) ⟨Nat.le_of_ble_eq_true rfl, Nat.le_of_ble_eq_true rfl⟩) ⟨fun a U g mk q => by obtain ⟨q0, q1, qP, qK, qD, qS⟩ := q; exact ⟨q0, q1, qP, va_K.moved (u := U) (U := U.calling g mk a) (Vm.Alike.refl U.vm) qK, qD, qS.calling⟩, va_recv hK hP (ci := 12) (q0 := 0) rfl rfl, fun U hU hW => ⟨rfl, by rw [hU], by rw [hU]; exact hP, va_K.moved hW.alike hK, hD.weaken (fun _ _ _ _ => trivial), (hSE.warm hS hU hW).narrow hFc⟩⟩ rfl rfl hl.1 rfl (lv_room (Nat.le_of_ble_eq_true rfl)) dX12_readLaw_19 ⟨Nat.le_of_ble_eq_true rfl, Nat.le_of_ble_eq_true rfl⟩) hS (fun q _ h => hFc q h) hFc (fun u t H1 locs ht hvm hw hB hz1 hk1 hS => ?_)
    obtain ⟨hP1, hK1, hD1⟩ := hB
    rw [ht] at hP1
    obtain ⟨hP, hD⟩ := jn_all (w1 := (mW h0 kB kI kZ q (upd (upd (upd (upd g 3 c19_g3) 4 c19_g4) 5 c19_g5) 6 c19_g6) F)) hFc hP1 hD1
    clear hFc hP1 hK1 hD1 hk1 hz1 ht hvm
    generalize H1 = H at hP hS ⊢
    have hP : va_P (dC, dI) vwCl (mW h0 kB kI kZ q (upd (upd (upd (upd g 3 c19_g3) 4 c19_g4) 5 c19_g5) 6 c19_g6) F) H := hP
    have hD : va_D A (mW h0 kB kI kZ q (upd (upd (upd (upd g 3 c19_g3) 4 c19_g4) 5 c19_g5) 6 c19_g6) F) := hD
    refine lv_sipush (v := 240) hx hb dX12_readLaw_22 (by decide +kernel) ?_
    refine lv_aload_n hx hb dX12_readLaw_25 rfl (lv_at hl 0 rfl) ?_
    refine va_get (D := (dC, dI)) (ci := 12) (v := .ref (q 11)) (C := RX12) (T := TX12) (N := 71) hx hb hts inX12 hown hK hP 0 rfl rfl 11 (by decide) (hts (.fieldLink RX12 21 "SpellTurnerModel" "laws" "[I") im_61) (fun _ h9 => h9) rfl dX12_readLaw_26 ?_
    refine lv_bipush (v := 6) hx hb dX12_readLaw_29 (by decide +kernel) ?_
    replace hr := iteS hr
    obtain ⟨hi31, hr⟩ := hr
    refine va_iald (f := (F 11)) hx hb hK hP 3 1 rfl rfl (inbV hi31) dX12_readLaw_31 ?_
    refine lv_iadd hx hb dX12_readLaw_32 ?_
    refine lv_topi (fun x33 ex33 => ?_)
    replace hr := vlS hr x33 ex33
    clear ex33
    refine lv_istore_n (lv' := [(1, .int x33), (0, .ref h0)]) hx hb dX12_readLaw_33 rfl hl (by decide) rfl (fun ls hl => ?_)
    refine lv_aload_n hx hb dX12_readLaw_34 rfl (lv_at hl 1 rfl) ?_
    refine lv_aload_n hx hb dX12_readLaw_35 rfl (lv_at hl 1 rfl) ?_
    refine va_get (D := (dC, dI)) (ci := 12) (v := .ref (q 14)) (C := RX12) (T := TX12) (N := 71) hx hb hts inX12 hown hK hP 0 rfl rfl 14 (by decide) (hts (.fieldLink RX12 30 "SpellTurnerModel" "lawText" "[B") im_72) (fun _ h9 => h9) rfl dX12_readLaw_36 ?_
    refine lv_aload_n hx hb dX12_readLaw_39 rfl (lv_at hl 1 rfl) ?_
    refine va_get (D := (dC, dI)) (ci := 12) (v := .ref (q 15)) (C := RX12) (T := TX12) (N := 71) hx hb hts inX12 hown hK hP 0 rfl rfl 15 (by decide) (hts (.fieldLink RX12 33 "SpellTurnerModel" "lawSize" "[I") im_71) (fun _ h9 => h9) rfl dX12_readLaw_40 ?_
    refine lv_iconst (v := 4) hx hb dX12_readLaw_43 (by decide +kernel) ?_
    refine lv_iload_n hx hb dX12_readLaw_44 rfl (lv_at hl 0 rfl) ?_
    refine lv_imul hx hb dX12_readLaw_45 ?_
    refine lv_iconst (v := 1) hx hb dX12_readLaw_46 (by decide +kernel) ?_
    replace hr := b5S hr
    obtain ⟨r47z, c47_g7, c47_g8, c47_F14, c47_F15, hc47, hr⟩ := hr
    have hFc := fr_all hD hS hA
    refine va_calli (va_runV (As := [.ref (q 14), .ref (q 15), .int (4 * x33), .int 1]) (rest := []) ⟨hx, hb, hml, hown, hts⟩ (m_take_14_15 l dC dI H.size h0 kB kI kZ q (upd (upd (upd (upd g 3 c19_g3) 4 c19_g4) 5 c19_g5) 6 c19_g6) F (4 * x33) 1 r47z c47_g7 c47_g8 c47_F14 c47_F15 hc47) (cwV 4 hts gw_X12_take_203 rfl rfl rfl (by decide +kernel) ⟨Nat.le_of_ble_eq_true rfl, Nat.le_of_ble_eq_true rfl⟩) ⟨fun a U g mk q => by obtain ⟨q0, q1, qP, qK, qD⟩ := q; exact ⟨q0, q1, qP, va_K.moved (u := U) (U := U.calling g mk a) (Vm.Alike.refl U.vm) qK, qD⟩, va_recv hK hP (ci := 12) (q0 := 0) rfl rfl, fun U hU hW => ⟨rfl, by rw [hU], by rw [hU]; exact hP, va_K.moved hW.alike hK, hD.weaken (fun _ _ _ _ => trivial)⟩⟩ rfl rfl hl.1 rfl (lv_room (Nat.le_of_ble_eq_true rfl)) dX12_readLaw_47 ⟨Nat.le_of_ble_eq_true rfl, Nat.le_of_ble_eq_true rfl⟩) hS (fun q _ h => hFc q h) hFc (fun r47 u t H1 locs ht hvm hw hB hz1 hk1 hS => ?_)
    replace hw : r47 = r47z := hw
    subst hw
    obtain ⟨hP1, hK1, hD1⟩ := hB
    rw [ht] at hP1
    obtain ⟨hP, hD⟩ := jn_all (w1 := (mW h0 kB kI kZ q (upd (upd (upd (upd (upd (upd g 3 c19_g3) 4 c19_g4) 5 c19_g5) 6 c19_g6) 7 c47_g7) 8 c47_g8) (upF (upF F 14 c47_F14) 15 c47_F15))) hFc hP1 hD1
    clear hFc hP1 hK1 hD1 hk1 hz1 ht hvm
    generalize H1 = H at hP hS ⊢
    have hP : va_P (dC, dI) vwCl (mW h0 kB kI kZ q (upd (upd (upd (upd (upd (upd g 3 c19_g3) 4 c19_g4) 5 c19_g5) 6 c19_g6) 7 c47_g7) 8 c47_g8) (upF (upF F 14 c47_F14) 15 c47_F15)) H := hP
    have hD : va_D A (mW h0 kB kI kZ q (upd (upd (upd (upd (upd (upd g 3 c19_g3) 4 c19_g4) 5 c19_g5) 6 c19_g6) 7 c47_g7) 8 c47_g8) (upF (upF F 14 c47_F14) 15 c47_F15)) := hD
    refine lv_if_ne (tgt := 55) hx hb dX12_readLaw_50 (by decide) (fun c50 => ?_) (fun c50 => ?_)
    · replace hr := iteF c50 hr
      refine lv_aload_n hx hb dX12_readLaw_55 rfl (lv_at hl 1 rfl) ?_
      replace hr := b4S hr
      obtain ⟨c56_g3, c56_g4, c56_g5, c56_g6, hc56, hr⟩ := hr
      have hFc := fr_all hD hS hA
      refine va_callv (va_runV (As := []) (rest := []) ⟨hx, hb, hml, hown, hts⟩ (m_scan l dC dI adK adV H.size h0 kB kI kZ q (upd (upd (upd (upd (upd (upd g 3 c19_g3) 4 c19_g4) 5 c19_g5) 6 c19_g6) 7 c47_g7) 8 c47_g8) (upF (upF F 14 c47_F14) 15 c47_F15) c56_g3 c56_g4 c56_g5 c56_g6 hc56) (cwV 0 hts gw_X12_scan_200 rfl rfl rfl (by decide +kernel) ⟨Nat.le_of_ble_eq_true rfl, Nat.le_of_ble_eq_true rfl⟩) ⟨fun a U g mk q => by obtain ⟨q0, q1, qP, qK, qD, qS⟩ := q; exact ⟨q0, q1, qP, va_K.moved (u := U) (U := U.calling g mk a) (Vm.Alike.refl U.vm) qK, qD, qS.calling⟩, va_recv hK hP (ci := 12) (q0 := 0) rfl rfl, fun U hU hW => ⟨rfl, by rw [hU], by rw [hU]; exact hP, va_K.moved hW.alike hK, hD.weaken (fun _ _ _ _ => trivial), (hSE.warm hS hU hW).narrow hFc⟩⟩ rfl rfl hl.1 rfl (lv_room (Nat.le_of_ble_eq_true rfl)) dX12_readLaw_56 ⟨Nat.le_of_ble_eq_true rfl, Nat.le_of_ble_eq_true rfl⟩) hS (fun q _ h => hFc q h) hFc (fun u t H1 locs ht hvm hw hB hz1 hk1 hS => ?_)
      obtain ⟨hP1, hK1, hD1⟩ := hB
      rw [ht] at hP1
      obtain ⟨hP, hD⟩ := jn_all (w1 := (mW h0 kB kI kZ q (upd (upd (upd (upd (upd (upd g 3 c56_g3) 4 c56_g4) 5 c56_g5) 6 c56_g6) 7 c47_g7) 8 c47_g8) (upF (upF F 14 c47_F14) 15 c47_F15))) hFc hP1 hD1
      clear hFc hP1 hK1 hD1 hk1 hz1 ht hvm
      generalize H1 = H at hP hS ⊢
      have hP : va_P (dC, dI) vwCl (mW h0 kB kI kZ q (upd (upd (upd (upd (upd (upd g 3 c56_g3) 4 c56_g4) 5 c56_g5) 6 c56_g6) 7 c47_g7) 8 c47_g8) (upF (upF F 14 c47_F14) 15 c47_F15)) H := hP
      have hD : va_D A (mW h0 kB kI kZ q (upd (upd (upd (upd (upd (upd g 3 c56_g3) 4 c56_g4) 5 c56_g5) 6 c56_g6) 7 c47_g7) 8 c47_g8) (upF (upF F 14 c47_F14) 15 c47_F15)) := hD
      refine lv_aload_n hx hb dX12_readLaw_59 rfl (lv_at hl 1 rfl) ?_
      refine va_get (D := (dC, dI)) (ci := 12) (v := .int c56_g3) (C := RX12) (T := TX12) (N := 71) hx hb hts inX12 hown hK hP 0 rfl rfl 3 (by decide) (hts (.fieldLink RX12 180 "SpellTurnerModel" "sort" "I") im_65) (fun _ h9 => h9) rfl dX12_readLaw_60 ?_
      refine lv_iconst (v := 1) hx hb dX12_readLaw_63 (by decide +kernel) ?_
      replace hr := jnS hr
      obtain ⟨j75, hj75, hr⟩ := hr
      have Jj75 : ∀ (H : Heap) (locs : List Loc) (ls : Array Slot), j75 () = some (r, c_g3, c_g4, c_g5, c_g6, c_g7, c_g8, c_F11, c_F14, c_F15, c_F16, c_F17) → va_P (dC, dI) vwCl (mW h0 kB kI kZ q (upd (upd (upd (upd (upd (upd g 3 c56_g3) 4 c56_g4) 5 c56_g5) 6 c56_g6) 7 c47_g7) 8 c47_g8) (upF (upF F 14 c47_F14) 15 c47_F15)) H → va_D A (mW h0 kB kI kZ q (upd (upd (upd (upd (upd (upd g 3 c56_g3) 4 c56_g4) 5 c56_g5) 6 c56_g6) 7 c47_g7) 8 c47_g8) (upF (upF F 14 c47_F14) 15 c47_F15)) → va_S A s.heap H locs → lv_has ls 4 [(0, .ref h0)] → W p l e ({ frames := 8, cells := 0, slots := 0, locals := 390 } : Room) s m args below meth c H locs 0 0 Q (F0 m 75 ls []) := by
        intro H locs ls hr hP hD hS hl
        rw [hj75] at hr
        refine lv_aload_n hx hb dX12_readLaw_75 rfl (lv_at hl 0 rfl) ?_
        refine lv_iconst (v := 1) hx hb dX12_readLaw_76 (by decide +kernel) ?_
        replace hr := b3S hr
        obtain ⟨r77z, c77_g7, c77_g8, hc77, hr⟩ := hr
        have hFc := fr_all hD hS hA
        refine va_calli (va_runV (As := [.int 1]) (rest := []) ⟨hx, hb, hml, hown, hts⟩ (m_wrong l dC dI H.size h0 kB kI kZ q (upd (upd (upd (upd (upd (upd g 3 c56_g3) 4 c56_g4) 5 c56_g5) 6 c56_g6) 7 c47_g7) 8 c47_g8) (upF (upF F 14 c47_F14) 15 c47_F15) 1 r77z c77_g7 c77_g8 hc77) (cwV 1 hts gw_X12_wrong_197 rfl rfl rfl (by decide +kernel) ⟨Nat.le_of_ble_eq_true rfl, Nat.le_of_ble_eq_true rfl⟩) ⟨fun a U g mk q => by obtain ⟨q0, q1, qP, qK, qD⟩ := q; exact ⟨q0, q1, qP, va_K.moved (u := U) (U := U.calling g mk a) (Vm.Alike.refl U.vm) qK, qD⟩, va_recv hK hP (ci := 12) (q0 := 0) rfl rfl, fun U hU hW => ⟨rfl, by rw [hU], by rw [hU]; exact hP, va_K.moved hW.alike hK, hD.weaken (fun _ _ _ _ => trivial)⟩⟩ rfl rfl hl.1 rfl (lv_room (Nat.le_of_ble_eq_true rfl)) dX12_readLaw_77 ⟨Nat.le_of_ble_eq_true rfl, Nat.le_of_ble_eq_true rfl⟩) hS (fun q _ h => hFc q h) hFc (fun r77 u t H1 locs ht hvm hw hB hz1 hk1 hS => ?_)
        replace hw : r77 = r77z := hw
        subst hw
        obtain ⟨hP1, hK1, hD1⟩ := hB
        rw [ht] at hP1
        obtain ⟨hP, hD⟩ := jn_all (w1 := (mW h0 kB kI kZ q (upd (upd (upd (upd (upd (upd g 3 c56_g3) 4 c56_g4) 5 c56_g5) 6 c56_g6) 7 c77_g7) 8 c77_g8) (upF (upF F 14 c47_F14) 15 c47_F15))) hFc hP1 hD1
        clear hFc hP1 hK1 hD1 hk1 hz1 ht hvm
        generalize H1 = H at hP hS ⊢
        have hP : va_P (dC, dI) vwCl (mW h0 kB kI kZ q (upd (upd (upd (upd (upd (upd g 3 c56_g3) 4 c56_g4) 5 c56_g5) 6 c56_g6) 7 c77_g7) 8 c77_g8) (upF (upF F 14 c47_F14) 15 c47_F15)) H := hP
        have hD : va_D A (mW h0 kB kI kZ q (upd (upd (upd (upd (upd (upd g 3 c56_g3) 4 c56_g4) 5 c56_g5) 6 c56_g6) 7 c77_g7) 8 c77_g8) (upF (upF F 14 c47_F14) 15 c47_F15)) := hD
        replace hr := iteS hr
        obtain ⟨hz80, hr⟩ := hr
        first | exact K 80 ls _ _ _ _ _ _ _ _ _ _ _ _ H _ hr hz80 dX12_readLaw_80 (sP_eq (mW_cg (by repeat (first | with_reducible rfl | with_reducible refine upd_cg ?_ | refine Eq.trans ?_ (upd_id rfl))) (by repeat (first | with_reducible rfl | with_reducible refine upF_cg ?_ | refine Eq.trans ?_ (upF_id rfl)))) hP) (sD_eq (mW_cg (by repeat (first | with_reducible rfl | with_reducible refine upd_cg ?_ | refine Eq.trans ?_ (upd_id rfl))) (by repeat (first | with_reducible rfl | with_reducible refine upF_cg ?_ | refine Eq.trans ?_ (upF_id rfl)))) hD) hS | exact K 80 ls _ _ _ _ _ _ _ _ _ _ _ _ H _ hr hz80 dX12_readLaw_80 hP hD hS
      refine lv_icmp_ne (tgt := 75) hx hb dX12_readLaw_64 (by decide) (fun c64 => ?_) (fun c64 => ?_)
      · replace hr := iteF c64 hr
        exact Jj75 H _ ls hr hP hD hS (lv_sub hl [1] rfl)
      · replace hr := iteT c64 hr
        refine lv_aload_n hx hb dX12_readLaw_67 rfl (lv_at hl 1 rfl) ?_
        refine va_get (D := (dC, dI)) (ci := 12) (v := .int c56_g4) (C := RX12) (T := TX12) (N := 71) hx hb hts inX12 hown hK hP 0 rfl rfl 4 (by decide) (hts (.fieldLink RX12 191 "SpellTurnerModel" "what" "I") im_252) (fun _ h9 => h9) rfl dX12_readLaw_68 ?_
        refine lv_iconst (v := 2) hx hb dX12_readLaw_71 (by decide +kernel) ?_
        refine lv_icmp_eq (tgt := 81) hx hb dX12_readLaw_72 (by decide) (fun c72 => ?_) (fun c72 => ?_)
        · replace hr := iteT c72 hr
          refine lv_aload_n hx hb dX12_readLaw_81 rfl (lv_at hl 1 rfl) ?_
          replace hr := b4S hr
          obtain ⟨c82_g3, c82_g4, c82_g5, c82_g6, hc82, hr⟩ := hr
          have hFc := fr_all hD hS hA
          refine va_callv (va_runV (As := []) (rest := []) ⟨hx, hb, hml, hown, hts⟩ (m_scan l dC dI adK adV H.size h0 kB kI kZ q (upd (upd (upd (upd (upd (upd g 3 c56_g3) 4 c56_g4) 5 c56_g5) 6 c56_g6) 7 c47_g7) 8 c47_g8) (upF (upF F 14 c47_F14) 15 c47_F15) c82_g3 c82_g4 c82_g5 c82_g6 hc82) (cwV 0 hts gw_X12_scan_200 rfl rfl rfl (by decide +kernel) ⟨Nat.le_of_ble_eq_true rfl, Nat.le_of_ble_eq_true rfl⟩) ⟨fun a U g mk q => by obtain ⟨q0, q1, qP, qK, qD, qS⟩ := q; exact ⟨q0, q1, qP, va_K.moved (u := U) (U := U.calling g mk a) (Vm.Alike.refl U.vm) qK, qD, qS.calling⟩, va_recv hK hP (ci := 12) (q0 := 0) rfl rfl, fun U hU hW => ⟨rfl, by rw [hU], by rw [hU]; exact hP, va_K.moved hW.alike hK, hD.weaken (fun _ _ _ _ => trivial), (hSE.warm hS hU hW).narrow hFc⟩⟩ rfl rfl hl.1 rfl (lv_room (Nat.le_of_ble_eq_true rfl)) dX12_readLaw_82 ⟨Nat.le_of_ble_eq_true rfl, Nat.le_of_ble_eq_true rfl⟩) hS (fun q _ h => hFc q h) hFc (fun u t H1 locs ht hvm hw hB hz1 hk1 hS => ?_)
          obtain ⟨hP1, hK1, hD1⟩ := hB
          rw [ht] at hP1
          obtain ⟨hP, hD⟩ := jn_all (w1 := (mW h0 kB kI kZ q (upd (upd (upd (upd (upd (upd g 3 c82_g3) 4 c82_g4) 5 c82_g5) 6 c82_g6) 7 c47_g7) 8 c47_g8) (upF (upF F 14 c47_F14) 15 c47_F15))) hFc hP1 hD1
          clear hFc hP1 hK1 hD1 hk1 hz1 ht hvm
          generalize H1 = H at hP hS ⊢
          have hP : va_P (dC, dI) vwCl (mW h0 kB kI kZ q (upd (upd (upd (upd (upd (upd g 3 c82_g3) 4 c82_g4) 5 c82_g5) 6 c82_g6) 7 c47_g7) 8 c47_g8) (upF (upF F 14 c47_F14) 15 c47_F15)) H := hP
          have hD : va_D A (mW h0 kB kI kZ q (upd (upd (upd (upd (upd (upd g 3 c82_g3) 4 c82_g4) 5 c82_g5) 6 c82_g6) 7 c47_g7) 8 c47_g8) (upF (upF F 14 c47_F14) 15 c47_F15)) := hD
          refine lv_aload_n hx hb dX12_readLaw_85 rfl (lv_at hl 1 rfl) ?_
          refine lv_aload_n hx hb dX12_readLaw_86 rfl (lv_at hl 1 rfl) ?_
          refine va_get (D := (dC, dI)) (ci := 12) (v := .ref (q 14)) (C := RX12) (T := TX12) (N := 71) hx hb hts inX12 hown hK hP 0 rfl rfl 14 (by decide) (hts (.fieldLink RX12 30 "SpellTurnerModel" "lawText" "[B") im_72) (fun _ h9 => h9) rfl dX12_readLaw_87 ?_
          refine lv_aload_n hx hb dX12_readLaw_90 rfl (lv_at hl 1 rfl) ?_
          refine va_get (D := (dC, dI)) (ci := 12) (v := .ref (q 15)) (C := RX12) (T := TX12) (N := 71) hx hb hts inX12 hown hK hP 0 rfl rfl 15 (by decide) (hts (.fieldLink RX12 33 "SpellTurnerModel" "lawSize" "[I") im_71) (fun _ h9 => h9) rfl dX12_readLaw_91 ?_
          refine lv_iconst (v := 4) hx hb dX12_readLaw_94 (by decide +kernel) ?_
          refine lv_iload_n hx hb dX12_readLaw_95 rfl (lv_at hl 0 rfl) ?_
          refine lv_imul hx hb dX12_readLaw_96 ?_
          refine lv_iconst (v := 1) hx hb dX12_readLaw_97 (by decide +kernel) ?_
          refine lv_iadd hx hb dX12_readLaw_98 ?_
          refine lv_iconst (v := 0) hx hb dX12_readLaw_99 (by decide +kernel) ?_
          replace hr := b5S hr
          obtain ⟨r100z, c100_g7, c100_g8, c100_F14, c100_F15, hc100, hr⟩ := hr
          have hFc := fr_all hD hS hA
          refine va_calli (va_runV (As := [.ref (q 14), .ref (q 15), .int ((4 * x33) + 1), .int 0]) (rest := []) ⟨hx, hb, hml, hown, hts⟩ (m_take_14_15 l dC dI H.size h0 kB kI kZ q (upd (upd (upd (upd (upd (upd g 3 c82_g3) 4 c82_g4) 5 c82_g5) 6 c82_g6) 7 c47_g7) 8 c47_g8) (upF (upF F 14 c47_F14) 15 c47_F15) ((4 * x33) + 1) 0 r100z c100_g7 c100_g8 c100_F14 c100_F15 hc100) (cwV 4 hts gw_X12_take_203 rfl rfl rfl (by decide +kernel) ⟨Nat.le_of_ble_eq_true rfl, Nat.le_of_ble_eq_true rfl⟩) ⟨fun a U g mk q => by obtain ⟨q0, q1, qP, qK, qD⟩ := q; exact ⟨q0, q1, qP, va_K.moved (u := U) (U := U.calling g mk a) (Vm.Alike.refl U.vm) qK, qD⟩, va_recv hK hP (ci := 12) (q0 := 0) rfl rfl, fun U hU hW => ⟨rfl, by rw [hU], by rw [hU]; exact hP, va_K.moved hW.alike hK, hD.weaken (fun _ _ _ _ => trivial)⟩⟩ rfl rfl hl.1 rfl (lv_room (Nat.le_of_ble_eq_true rfl)) dX12_readLaw_100 ⟨Nat.le_of_ble_eq_true rfl, Nat.le_of_ble_eq_true rfl⟩) hS (fun q _ h => hFc q h) hFc (fun r100 u t H1 locs ht hvm hw hB hz1 hk1 hS => ?_)
          replace hw : r100 = r100z := hw
          subst hw
          obtain ⟨hP1, hK1, hD1⟩ := hB
          rw [ht] at hP1
          obtain ⟨hP, hD⟩ := jn_all (w1 := (mW h0 kB kI kZ q (upd (upd (upd (upd (upd (upd g 3 c82_g3) 4 c82_g4) 5 c82_g5) 6 c82_g6) 7 c100_g7) 8 c100_g8) (upF (upF F 14 c100_F14) 15 c100_F15))) hFc hP1 hD1
          clear hFc hP1 hK1 hD1 hk1 hz1 ht hvm
          generalize H1 = H at hP hS ⊢
          have hP : va_P (dC, dI) vwCl (mW h0 kB kI kZ q (upd (upd (upd (upd (upd (upd g 3 c82_g3) 4 c82_g4) 5 c82_g5) 6 c82_g6) 7 c100_g7) 8 c100_g8) (upF (upF F 14 c100_F14) 15 c100_F15)) H := hP
          have hD : va_D A (mW h0 kB kI kZ q (upd (upd (upd (upd (upd (upd g 3 c82_g3) 4 c82_g4) 5 c82_g5) 6 c82_g6) 7 c100_g7) 8 c100_g8) (upF (upF F 14 c100_F14) 15 c100_F15)) := hD
          refine lv_if_ne (tgt := 108) hx hb dX12_readLaw_103 (by decide) (fun c103 => ?_) (fun c103 => ?_)
          · replace hr := iteF c103 hr
            refine lv_aload_n hx hb dX12_readLaw_108 rfl (lv_at hl 1 rfl) ?_
            replace hr := b4S hr
            obtain ⟨c109_g3, c109_g4, c109_g5, c109_g6, hc109, hr⟩ := hr
            have hFc := fr_all hD hS hA
            refine va_callv (va_runV (As := []) (rest := []) ⟨hx, hb, hml, hown, hts⟩ (m_scan l dC dI adK adV H.size h0 kB kI kZ q (upd (upd (upd (upd (upd (upd g 3 c82_g3) 4 c82_g4) 5 c82_g5) 6 c82_g6) 7 c100_g7) 8 c100_g8) (upF (upF F 14 c100_F14) 15 c100_F15) c109_g3 c109_g4 c109_g5 c109_g6 hc109) (cwV 0 hts gw_X12_scan_200 rfl rfl rfl (by decide +kernel) ⟨Nat.le_of_ble_eq_true rfl, Nat.le_of_ble_eq_true rfl⟩) ⟨fun a U g mk q => by obtain ⟨q0, q1, qP, qK, qD, qS⟩ := q; exact ⟨q0, q1, qP, va_K.moved (u := U) (U := U.calling g mk a) (Vm.Alike.refl U.vm) qK, qD, qS.calling⟩, va_recv hK hP (ci := 12) (q0 := 0) rfl rfl, fun U hU hW => ⟨rfl, by rw [hU], by rw [hU]; exact hP, va_K.moved hW.alike hK, hD.weaken (fun _ _ _ _ => trivial), (hSE.warm hS hU hW).narrow hFc⟩⟩ rfl rfl hl.1 rfl (lv_room (Nat.le_of_ble_eq_true rfl)) dX12_readLaw_109 ⟨Nat.le_of_ble_eq_true rfl, Nat.le_of_ble_eq_true rfl⟩) hS (fun q _ h => hFc q h) hFc (fun u t H1 locs ht hvm hw hB hz1 hk1 hS => ?_)
            obtain ⟨hP1, hK1, hD1⟩ := hB
            rw [ht] at hP1
            obtain ⟨hP, hD⟩ := jn_all (w1 := (mW h0 kB kI kZ q (upd (upd (upd (upd (upd (upd g 3 c109_g3) 4 c109_g4) 5 c109_g5) 6 c109_g6) 7 c100_g7) 8 c100_g8) (upF (upF F 14 c100_F14) 15 c100_F15))) hFc hP1 hD1
            clear hFc hP1 hK1 hD1 hk1 hz1 ht hvm
            generalize H1 = H at hP hS ⊢
            have hP : va_P (dC, dI) vwCl (mW h0 kB kI kZ q (upd (upd (upd (upd (upd (upd g 3 c109_g3) 4 c109_g4) 5 c109_g5) 6 c109_g6) 7 c100_g7) 8 c100_g8) (upF (upF F 14 c100_F14) 15 c100_F15)) H := hP
            have hD : va_D A (mW h0 kB kI kZ q (upd (upd (upd (upd (upd (upd g 3 c109_g3) 4 c109_g4) 5 c109_g5) 6 c109_g6) 7 c100_g7) 8 c100_g8) (upF (upF F 14 c100_F14) 15 c100_F15)) := hD
            refine lv_aload_n hx hb dX12_readLaw_112 rfl (lv_at hl 1 rfl) ?_
            refine va_get (D := (dC, dI)) (ci := 12) (v := .ref (q 16)) (C := RX12) (T := TX12) (N := 71) hx hb hts inX12 hown hK hP 0 rfl rfl 16 (by decide) (hts (.fieldLink RX12 36 "SpellTurnerModel" "atStart" "[Z") im_155) (fun _ h9 => h9) rfl dX12_readLaw_113 ?_
            refine lv_iload_n hx hb dX12_readLaw_116 rfl (lv_at hl 0 rfl) ?_
            refine lv_iconst (v := 0) hx hb dX12_readLaw_117 (by decide +kernel) ?_
            replace hr := iteS hr
            obtain ⟨hi118, hr⟩ := hr
            refine va_zast (f := (F 16)) hx hb hK hP hD hS 8 2 rfl rfl (inbV hi118) dX12_readLaw_118 (fun H locs hP hD hS => ?_)
            obtain ⟨w118, ew118, hP, hD⟩ : ∃ w118 : Nat → Int32, w118 = (upd (F 16) (Int32.toNatClampNeg x33) (vp_nar .boolean 0)) ∧ va_P (dC, dI) vwCl (mW h0 kB kI kZ q (upd (upd (upd (upd (upd (upd g 3 c109_g3) 4 c109_g4) 5 c109_g5) 6 c109_g6) 7 c100_g7) 8 c100_g8) (upF (upF (upF F 14 c100_F14) 15 c100_F15) 16 w118)) H ∧ va_D A (mW h0 kB kI kZ q (upd (upd (upd (upd (upd (upd g 3 c109_g3) 4 c109_g4) 5 c109_g5) 6 c109_g6) 7 c100_g7) 8 c100_g8) (upF (upF (upF F 14 c100_F14) 15 c100_F15) 16 w118)) := ⟨(upd (F 16) (Int32.toNatClampNeg x33) (vp_nar .boolean 0)), rfl, by first | exact sP_F16 hP rfl | exact sP_F16 hP upF_same | exact hP, by first | exact sD_F16 hD rfl | exact sD_F16 hD upF_same | exact hD⟩
            replace hr := vlS hr w118 ew118
            clear ew118
            refine lv_aload_n hx hb dX12_readLaw_119 rfl (lv_at hl 1 rfl) ?_
            refine va_get (D := (dC, dI)) (ci := 12) (v := .ref (q 17)) (C := RX12) (T := TX12) (N := 71) hx hb hts inX12 hown hK hP 0 rfl rfl 17 (by decide) (hts (.fieldLink RX12 40 "SpellTurnerModel" "atEnd" "[Z") im_156) (fun _ h9 => h9) rfl dX12_readLaw_120 ?_
            refine lv_iload_n hx hb dX12_readLaw_123 rfl (lv_at hl 0 rfl) ?_
            refine lv_iconst (v := 0) hx hb dX12_readLaw_124 (by decide +kernel) ?_
            replace hr := iteS hr
            obtain ⟨hi125, hr⟩ := hr
            refine va_zast (f := (F 17)) hx hb hK hP hD hS 9 2 rfl rfl (inbV hi125) dX12_readLaw_125 (fun H locs hP hD hS => ?_)
            obtain ⟨w125, ew125, hP, hD⟩ : ∃ w125 : Nat → Int32, w125 = (upd (F 17) (Int32.toNatClampNeg x33) (vp_nar .boolean 0)) ∧ va_P (dC, dI) vwCl (mW h0 kB kI kZ q (upd (upd (upd (upd (upd (upd g 3 c109_g3) 4 c109_g4) 5 c109_g5) 6 c109_g6) 7 c100_g7) 8 c100_g8) (upF (upF (upF (upF F 14 c100_F14) 15 c100_F15) 16 w118) 17 w125)) H ∧ va_D A (mW h0 kB kI kZ q (upd (upd (upd (upd (upd (upd g 3 c109_g3) 4 c109_g4) 5 c109_g5) 6 c109_g6) 7 c100_g7) 8 c100_g8) (upF (upF (upF (upF F 14 c100_F14) 15 c100_F15) 16 w118) 17 w125)) := ⟨(upd (F 17) (Int32.toNatClampNeg x33) (vp_nar .boolean 0)), rfl, by first | exact sP_F17 hP rfl | exact sP_F17 hP upF_same | exact hP, by first | exact sD_F17 hD rfl | exact sD_F17 hD upF_same | exact hD⟩
            replace hr := vlS hr w125 ew125
            clear ew125
            refine lv_aload_n hx hb dX12_readLaw_126 rfl (lv_at hl 1 rfl) ?_
            refine va_get (D := (dC, dI)) (ci := 12) (v := .ref (q 15)) (C := RX12) (T := TX12) (N := 71) hx hb hts inX12 hown hK hP 0 rfl rfl 15 (by decide) (hts (.fieldLink RX12 33 "SpellTurnerModel" "lawSize" "[I") im_71) (fun _ h9 => h9) rfl dX12_readLaw_127 ?_
            refine lv_iconst (v := 4) hx hb dX12_readLaw_130 (by decide +kernel) ?_
            refine lv_iload_n hx hb dX12_readLaw_131 rfl (lv_at hl 0 rfl) ?_
            refine lv_imul hx hb dX12_readLaw_132 ?_
            refine lv_iconst (v := 2) hx hb dX12_readLaw_133 (by decide +kernel) ?_
            refine lv_iadd hx hb dX12_readLaw_134 ?_
            refine lv_iconst (v := (-1)) hx hb dX12_readLaw_135 (by decide +kernel) ?_
            replace hr := iteS hr
            obtain ⟨hi136, hr⟩ := hr
            refine va_iast (f := c100_F15) hx hb hK hP hD hS 7 1 rfl rfl (inbV hi136) dX12_readLaw_136 (fun H locs hP hD hS => ?_)
            obtain ⟨w136, ew136, hP, hD⟩ : ∃ w136 : Nat → Int32, w136 = (upd c100_F15 (Int32.toNatClampNeg ((4 * x33) + 2)) (-1)) ∧ va_P (dC, dI) vwCl (mW h0 kB kI kZ q (upd (upd (upd (upd (upd (upd g 3 c109_g3) 4 c109_g4) 5 c109_g5) 6 c109_g6) 7 c100_g7) 8 c100_g8) (upF (upF (upF (upF F 14 c100_F14) 15 w136) 16 w118) 17 w125)) H ∧ va_D A (mW h0 kB kI kZ q (upd (upd (upd (upd (upd (upd g 3 c109_g3) 4 c109_g4) 5 c109_g5) 6 c109_g6) 7 c100_g7) 8 c100_g8) (upF (upF (upF (upF F 14 c100_F14) 15 w136) 16 w118) 17 w125)) := ⟨(upd c100_F15 (Int32.toNatClampNeg ((4 * x33) + 2)) (-1)), rfl, by first | exact sP_F15 hP (upF_in (by decide) (upF_in (by decide) upF_same)) | exact sP_F15 hP (upF_in (by decide) (upF_in (by decide) rfl)) | exact hP, by first | exact sD_F15 hD (upF_in (by decide) (upF_in (by decide) upF_same)) | exact sD_F15 hD (upF_in (by decide) (upF_in (by decide) rfl)) | exact hD⟩
            replace hr := vlS hr w136 ew136
            clear ew136
            refine lv_aload_n hx hb dX12_readLaw_137 rfl (lv_at hl 1 rfl) ?_
            refine va_get (D := (dC, dI)) (ci := 12) (v := .ref (q 15)) (C := RX12) (T := TX12) (N := 71) hx hb hts inX12 hown hK hP 0 rfl rfl 15 (by decide) (hts (.fieldLink RX12 33 "SpellTurnerModel" "lawSize" "[I") im_71) (fun _ h9 => h9) rfl dX12_readLaw_138 ?_
            refine lv_iconst (v := 4) hx hb dX12_readLaw_141 (by decide +kernel) ?_
            refine lv_iload_n hx hb dX12_readLaw_142 rfl (lv_at hl 0 rfl) ?_
            refine lv_imul hx hb dX12_readLaw_143 ?_
            refine lv_iconst (v := 3) hx hb dX12_readLaw_144 (by decide +kernel) ?_
            refine lv_iadd hx hb dX12_readLaw_145 ?_
            refine lv_iconst (v := (-1)) hx hb dX12_readLaw_146 (by decide +kernel) ?_
            replace hr := iteS hr
            obtain ⟨hi147, hr⟩ := hr
            refine va_iast (f := w136) hx hb hK hP hD hS 7 1 rfl rfl (inbV hi147) dX12_readLaw_147 (fun H locs hP hD hS => ?_)
            obtain ⟨w147, ew147, hP, hD⟩ : ∃ w147 : Nat → Int32, w147 = (upd w136 (Int32.toNatClampNeg ((4 * x33) + 3)) (-1)) ∧ va_P (dC, dI) vwCl (mW h0 kB kI kZ q (upd (upd (upd (upd (upd (upd g 3 c109_g3) 4 c109_g4) 5 c109_g5) 6 c109_g6) 7 c100_g7) 8 c100_g8) (upF (upF (upF (upF F 14 c100_F14) 15 w147) 16 w118) 17 w125)) H ∧ va_D A (mW h0 kB kI kZ q (upd (upd (upd (upd (upd (upd g 3 c109_g3) 4 c109_g4) 5 c109_g5) 6 c109_g6) 7 c100_g7) 8 c100_g8) (upF (upF (upF (upF F 14 c100_F14) 15 w147) 16 w118) 17 w125)) := ⟨(upd w136 (Int32.toNatClampNeg ((4 * x33) + 3)) (-1)), rfl, by first | exact sP_F15 hP (upF_in (by decide) (upF_in (by decide) upF_same)) | exact sP_F15 hP (upF_in (by decide) (upF_in (by decide) rfl)) | exact hP, by first | exact sD_F15 hD (upF_in (by decide) (upF_in (by decide) upF_same)) | exact sD_F15 hD (upF_in (by decide) (upF_in (by decide) rfl)) | exact hD⟩
            replace hr := vlS hr w147 ew147
            clear ew147
            replace hr := jnS hr
            obtain ⟨k303, hk303, hr⟩ := hr
            have Jk303 : ∀ (c303_g3 : Int32) (c303_g4 : Int32) (c303_g5 : Int32) (c303_g6 : Int32) (c303_g7 : Int32) (c303_g8 : Int32) (c303_F14 : (Nat → Int32)) (c303_F15 : (Nat → Int32)) (c303_F16 : (Nat → Int32)) (c303_F17 : (Nat → Int32)) (H : Heap) (locs : List Loc) (ls : Array Slot), k303 c303_g3 c303_g4 c303_g5 c303_g6 c303_g7 c303_g8 c303_F14 c303_F15 c303_F16 c303_F17 = some (r, c_g3, c_g4, c_g5, c_g6, c_g7, c_g8, c_F11, c_F14, c_F15, c_F16, c_F17) → va_P (dC, dI) vwCl (mW h0 kB kI kZ q (upd (upd (upd (upd (upd (upd g 3 c303_g3) 4 c303_g4) 5 c303_g5) 6 c303_g6) 7 c303_g7) 8 c303_g8) (upF (upF (upF (upF F 14 c303_F14) 15 c303_F15) 16 c303_F16) 17 c303_F17)) H → va_D A (mW h0 kB kI kZ q (upd (upd (upd (upd (upd (upd g 3 c303_g3) 4 c303_g4) 5 c303_g5) 6 c303_g6) 7 c303_g7) 8 c303_g8) (upF (upF (upF (upF F 14 c303_F14) 15 c303_F15) 16 c303_F16) 17 c303_F17)) → va_S A s.heap H locs → lv_has ls 4 [(0, .ref h0)] → W p l e ({ frames := 8, cells := 0, slots := 0, locals := 390 } : Room) s m args below meth c H locs 0 0 Q (F0 m 303 ls []) := by
              intro c303_g3 c303_g4 c303_g5 c303_g6 c303_g7 c303_g8 c303_F14 c303_F15 c303_F16 c303_F17 H locs ls hr hP hD hS hl
              rw [hk303] at hr
              refine lv_aload_n hx hb dX12_readLaw_303 rfl (lv_at hl 0 rfl) ?_
              refine va_get (D := (dC, dI)) (ci := 12) (v := .ref (q 11)) (C := RX12) (T := TX12) (N := 71) hx hb hts inX12 hown hK hP 0 rfl rfl 11 (by decide) (hts (.fieldLink RX12 21 "SpellTurnerModel" "laws" "[I") im_61) (fun _ h9 => h9) rfl dX12_readLaw_304 ?_
              refine lv_bipush (v := 6) hx hb dX12_readLaw_307 (by decide +kernel) ?_
              refine lv_dup2_11 hx hb dX12_readLaw_309 rfl rfl ?_
              replace hr := iteS hr
              obtain ⟨hi310, hr⟩ := hr
              refine va_iald (f := (F 11)) hx hb hK hP 3 1 rfl rfl (inbV hi310) dX12_readLaw_310 ?_
              refine lv_iconst (v := 1) hx hb dX12_readLaw_311 (by decide +kernel) ?_
              refine lv_iadd hx hb dX12_readLaw_312 ?_
              replace hr := iteS hr
              obtain ⟨hi313, hr⟩ := hr
              refine va_iast (f := (F 11)) hx hb hK hP hD hS 3 1 rfl rfl (inbV hi313) dX12_readLaw_313 (fun H locs hP hD hS => ?_)
              obtain ⟨w313, ew313, hP, hD⟩ : ∃ w313 : Nat → Int32, w313 = (upd (F 11) (Int32.toNatClampNeg 6) (((F 11) (Int32.toNatClampNeg 6)) + 1)) ∧ va_P (dC, dI) vwCl (mW h0 kB kI kZ q (upd (upd (upd (upd (upd (upd g 3 c303_g3) 4 c303_g4) 5 c303_g5) 6 c303_g6) 7 c303_g7) 8 c303_g8) (upF (upF (upF (upF (upF F 11 w313) 14 c303_F14) 15 c303_F15) 16 c303_F16) 17 c303_F17)) H ∧ va_D A (mW h0 kB kI kZ q (upd (upd (upd (upd (upd (upd g 3 c303_g3) 4 c303_g4) 5 c303_g5) 6 c303_g6) 7 c303_g7) 8 c303_g8) (upF (upF (upF (upF (upF F 11 w313) 14 c303_F14) 15 c303_F15) 16 c303_F16) 17 c303_F17)) := ⟨(upd (F 11) (Int32.toNatClampNeg 6) (((F 11) (Int32.toNatClampNeg 6)) + 1)), rfl, by first | exact sP_F11 hP (upF_in (by decide) (upF_in (by decide) (upF_in (by decide) (upF_in (by decide) rfl)))) | exact sP_F11 hP (upF_in (by decide) (upF_in (by decide) (upF_in (by decide) (upF_in (by decide) upF_same)))) | exact hP, by first | exact sD_F11 hD (upF_in (by decide) (upF_in (by decide) (upF_in (by decide) (upF_in (by decide) rfl)))) | exact sD_F11 hD (upF_in (by decide) (upF_in (by decide) (upF_in (by decide) (upF_in (by decide) upF_same)))) | exact hD⟩
              replace hr := vlS hr w313 ew313
              clear ew313
              refine lv_iconst (v := 1) hx hb dX12_readLaw_314 (by decide +kernel) ?_
              first | exact K 315 ls _ _ _ _ _ _ _ _ _ _ _ _ H _ hr (by decide) dX12_readLaw_315 (sP_eq (mW_cg (by repeat (first | with_reducible rfl | with_reducible refine upd_cg ?_ | refine Eq.trans ?_ (upd_id rfl))) (by repeat (first | with_reducible rfl | with_reducible refine upF_cg ?_ | refine Eq.trans ?_ (upF_id rfl)))) hP) (sD_eq (mW_cg (by repeat (first | with_reducible rfl | with_reducible refine upd_cg ?_ | refine Eq.trans ?_ (upd_id rfl))) (by repeat (first | with_reducible rfl | with_reducible refine upF_cg ?_ | refine Eq.trans ?_ (upF_id rfl)))) hD) hS | exact K 315 ls _ _ _ _ _ _ _ _ _ _ _ _ H _ hr (by decide) dX12_readLaw_315 hP hD hS
            have lp148 : ∀ (n148 : Nat) (d148_g3 : Int32) (d148_g4 : Int32) (d148_g5 : Int32) (d148_g6 : Int32) (d148_g7 : Int32) (d148_g8 : Int32) (d148_F14 : (Nat → Int32)) (d148_F15 : (Nat → Int32)) (d148_F16 : (Nat → Int32)) (d148_F17 : (Nat → Int32)) (H : Heap) (locs : List Loc) (ls : Array Slot), L_readLaw_148 g F x33 k303 n148 d148_g3 d148_g4 d148_g5 d148_g6 d148_g7 d148_g8 d148_F14 d148_F15 d148_F16 d148_F17 = some (r, c_g3, c_g4, c_g5, c_g6, c_g7, c_g8, c_F11, c_F14, c_F15, c_F16, c_F17) → va_P (dC, dI) vwCl (mW h0 kB kI kZ q (upd (upd (upd (upd (upd (upd g 3 d148_g3) 4 d148_g4) 5 d148_g5) 6 d148_g6) 7 d148_g7) 8 d148_g8) (upF (upF (upF (upF F 14 d148_F14) 15 d148_F15) 16 d148_F16) 17 d148_F17)) H → va_D A (mW h0 kB kI kZ q (upd (upd (upd (upd (upd (upd g 3 d148_g3) 4 d148_g4) 5 d148_g5) 6 d148_g6) 7 d148_g7) 8 d148_g8) (upF (upF (upF (upF F 14 d148_F14) 15 d148_F15) 16 d148_F16) 17 d148_F17)) → va_S A s.heap H locs → lv_has ls 4 [(0, .ref h0), (1, .int x33)] → W p l e ({ frames := 8, cells := 0, slots := 0, locals := 390 } : Room) s m args below meth c H locs 0 0 Q (F0 m 148 ls []) := by
              intro n148
              induction n148 with
              | zero => intro d148_g3 d148_g4 d148_g5 d148_g6 d148_g7 d148_g8 d148_F14 d148_F15 d148_F16 d148_F17 H locs ls hr; exact nomatch (show none = some (r, c_g3, c_g4, c_g5, c_g6, c_g7, c_g8, c_F11, c_F14, c_F15, c_F16, c_F17) from hr)
              | succ n148 ih148 =>
                intro d148_g3 d148_g4 d148_g5 d148_g6 d148_g7 d148_g8 d148_F14 d148_F15 d148_F16 d148_F17 H locs ls hr hP hD hS hl
                replace hr : B_readLaw_148 g F x33 k303 (L_readLaw_148 g F x33 k303 n148) d148_g3 d148_g4 d148_g5 d148_g6 d148_g7 d148_g8 d148_F14 d148_F15 d148_F16 d148_F17 = some (r, c_g3, c_g4, c_g5, c_g6, c_g7, c_g8, c_F11, c_F14, c_F15, c_F16, c_F17) := hr
                unfold B_readLaw_148 at hr
                refine lv_aload_n hx hb dX12_readLaw_148 rfl (lv_at hl 0 rfl) ?_
                refine va_get (D := (dC, dI)) (ci := 12) (v := .int d148_g3) (C := RX12) (T := TX12) (N := 71) hx hb hts inX12 hown hK hP 0 rfl rfl 3 (by decide) (hts (.fieldLink RX12 180 "SpellTurnerModel" "sort" "I") im_65) (fun _ h9 => h9) rfl dX12_readLaw_149 ?_
                refine lv_iconst (v := 1) hx hb dX12_readLaw_152 (by decide +kernel) ?_
                refine lv_icmp_ne (tgt := 303) hx hb dX12_readLaw_153 (by decide) (fun c153 => ?_) (fun c153 => ?_)
                · replace hr := iteF c153 hr
                  exact Jk303 d148_g3 d148_g4 d148_g5 d148_g6 d148_g7 d148_g8 d148_F14 d148_F15 d148_F16 d148_F17 H _ ls hr hP hD hS (lv_sub hl [0] rfl)
                · replace hr := iteT c153 hr
                  refine lv_aload_n hx hb dX12_readLaw_156 rfl (lv_at hl 0 rfl) ?_
                  refine va_get (D := (dC, dI)) (ci := 12) (v := .int d148_g4) (C := RX12) (T := TX12) (N := 71) hx hb hts inX12 hown hK hP 0 rfl rfl 4 (by decide) (hts (.fieldLink RX12 191 "SpellTurnerModel" "what" "I") im_252) (fun _ h9 => h9) rfl dX12_readLaw_157 ?_
                  refine lv_iconst (v := 5) hx hb dX12_readLaw_160 (by decide +kernel) ?_
                  refine lv_icmp_lt (tgt := 303) hx hb dX12_readLaw_161 (by decide) (fun c161 => ?_) (fun c161 => ?_)
                  · replace hr := iteT c161 hr
                    exact Jk303 d148_g3 d148_g4 d148_g5 d148_g6 d148_g7 d148_g8 d148_F14 d148_F15 d148_F16 d148_F17 H _ ls hr hP hD hS (lv_sub hl [0] rfl)
                  · replace hr := iteF c161 hr
                    refine lv_aload_n hx hb dX12_readLaw_164 rfl (lv_at hl 0 rfl) ?_
                    refine va_get (D := (dC, dI)) (ci := 12) (v := .int d148_g4) (C := RX12) (T := TX12) (N := 71) hx hb hts inX12 hown hK hP 0 rfl rfl 4 (by decide) (hts (.fieldLink RX12 191 "SpellTurnerModel" "what" "I") im_252) (fun _ h9 => h9) rfl dX12_readLaw_165 ?_
                    refine lv_istore_n (lv' := [(2, .int d148_g4), (0, .ref h0), (1, .int x33)]) hx hb dX12_readLaw_168 rfl hl (by decide) rfl (fun ls hl => ?_)
                    refine lv_iload_n hx hb dX12_readLaw_169 rfl (lv_at hl 0 rfl) ?_
                    refine lv_iconst (v := 5) hx hb dX12_readLaw_170 (by decide +kernel) ?_
                    replace hr := jnS hr
                    obtain ⟨j222, hj222, hr⟩ := hr
                    have Jj222 : ∀ (t222_0 : Int32) (H : Heap) (locs : List Loc) (ls : Array Slot), j222 t222_0 = some (r, c_g3, c_g4, c_g5, c_g6, c_g7, c_g8, c_F11, c_F14, c_F15, c_F16, c_F17) → va_P (dC, dI) vwCl (mW h0 kB kI kZ q (upd (upd (upd (upd (upd (upd g 3 d148_g3) 4 d148_g4) 5 d148_g5) 6 d148_g6) 7 d148_g7) 8 d148_g8) (upF (upF (upF (upF F 14 d148_F14) 15 d148_F15) 16 d148_F16) 17 d148_F17)) H → va_D A (mW h0 kB kI kZ q (upd (upd (upd (upd (upd (upd g 3 d148_g3) 4 d148_g4) 5 d148_g5) 6 d148_g6) 7 d148_g7) 8 d148_g8) (upF (upF (upF (upF F 14 d148_F14) 15 d148_F15) 16 d148_F16) 17 d148_F17)) → va_S A s.heap H locs → lv_has ls 4 [(0, .ref h0), (1, .int x33), (2, .int d148_g4)] → W p l e ({ frames := 8, cells := 0, slots := 0, locals := 390 } : Room) s m args below meth c H locs 0 0 Q (F0 m 222 ls [.int t222_0]) := by
                      intro t222_0 H locs ls hr hP hD hS hl
                      rw [hj222] at hr
                      refine lv_istore_n (lv' := [(3, .int t222_0), (0, .ref h0), (1, .int x33), (2, .int d148_g4)]) hx hb dX12_readLaw_222 rfl hl (by decide) rfl (fun ls hl => ?_)
                      refine lv_iload_n hx hb dX12_readLaw_223 rfl (lv_at hl 0 rfl) ?_
                      refine lv_if_eq (tgt := 233) hx hb dX12_readLaw_224 (by decide) (fun c224 => ?_) (fun c224 => ?_)
                      · replace hr := iteT c224 hr
                        refine lv_aload_n hx hb dX12_readLaw_233 rfl (lv_at hl 1 rfl) ?_
                        replace hr := b4S hr
                        obtain ⟨c234_g3, c234_g4, c234_g5, c234_g6, hc234, hr⟩ := hr
                        have hFc := fr_all hD hS hA
                        refine va_callv (va_runV (As := []) (rest := []) ⟨hx, hb, hml, hown, hts⟩ (m_scan l dC dI adK adV H.size h0 kB kI kZ q (upd (upd (upd (upd (upd (upd g 3 d148_g3) 4 d148_g4) 5 d148_g5) 6 d148_g6) 7 d148_g7) 8 d148_g8) (upF (upF (upF (upF F 14 d148_F14) 15 d148_F15) 16 d148_F16) 17 d148_F17) c234_g3 c234_g4 c234_g5 c234_g6 hc234) (cwV 0 hts gw_X12_scan_200 rfl rfl rfl (by decide +kernel) ⟨Nat.le_of_ble_eq_true rfl, Nat.le_of_ble_eq_true rfl⟩) ⟨fun a U g mk q => by obtain ⟨q0, q1, qP, qK, qD, qS⟩ := q; exact ⟨q0, q1, qP, va_K.moved (u := U) (U := U.calling g mk a) (Vm.Alike.refl U.vm) qK, qD, qS.calling⟩, va_recv hK hP (ci := 12) (q0 := 0) rfl rfl, fun U hU hW => ⟨rfl, by rw [hU], by rw [hU]; exact hP, va_K.moved hW.alike hK, hD.weaken (fun _ _ _ _ => trivial), (hSE.warm hS hU hW).narrow hFc⟩⟩ rfl rfl hl.1 rfl (lv_room (Nat.le_of_ble_eq_true rfl)) dX12_readLaw_234 ⟨Nat.le_of_ble_eq_true rfl, Nat.le_of_ble_eq_true rfl⟩) hS (fun q _ h => hFc q h) hFc (fun u t H1 locs ht hvm hw hB hz1 hk1 hS => ?_)
                        obtain ⟨hP1, hK1, hD1⟩ := hB
                        rw [ht] at hP1
                        obtain ⟨hP, hD⟩ := jn_all (w1 := (mW h0 kB kI kZ q (upd (upd (upd (upd (upd (upd g 3 c234_g3) 4 c234_g4) 5 c234_g5) 6 c234_g6) 7 d148_g7) 8 d148_g8) (upF (upF (upF (upF F 14 d148_F14) 15 d148_F15) 16 d148_F16) 17 d148_F17))) hFc hP1 hD1
                        clear hFc hP1 hK1 hD1 hk1 hz1 ht hvm
                        generalize H1 = H at hP hS ⊢
                        have hP : va_P (dC, dI) vwCl (mW h0 kB kI kZ q (upd (upd (upd (upd (upd (upd g 3 c234_g3) 4 c234_g4) 5 c234_g5) 6 c234_g6) 7 d148_g7) 8 d148_g8) (upF (upF (upF (upF F 14 d148_F14) 15 d148_F15) 16 d148_F16) 17 d148_F17)) H := hP
                        have hD : va_D A (mW h0 kB kI kZ q (upd (upd (upd (upd (upd (upd g 3 c234_g3) 4 c234_g4) 5 c234_g5) 6 c234_g6) 7 d148_g7) 8 d148_g8) (upF (upF (upF (upF F 14 d148_F14) 15 d148_F15) 16 d148_F16) 17 d148_F17)) := hD
                        refine lv_iload_n hx hb dX12_readLaw_237 rfl (lv_at hl 3 rfl) ?_
                        refine lv_iconst (v := 5) hx hb dX12_readLaw_238 (by decide +kernel) ?_
                        replace hr := jnS hr
                        obtain ⟨j300, hj300, hr⟩ := hr
                        have Jj300 : ∀ (c300_g3 : Int32) (c300_g4 : Int32) (c300_g5 : Int32) (c300_g6 : Int32) (c300_g7 : Int32) (c300_g8 : Int32) (c300_F14 : (Nat → Int32)) (c300_F15 : (Nat → Int32)) (c300_F16 : (Nat → Int32)) (c300_F17 : (Nat → Int32)) (H : Heap) (locs : List Loc) (ls : Array Slot), j300 c300_g3 c300_g4 c300_g5 c300_g6 c300_g7 c300_g8 c300_F14 c300_F15 c300_F16 c300_F17 = some (r, c_g3, c_g4, c_g5, c_g6, c_g7, c_g8, c_F11, c_F14, c_F15, c_F16, c_F17) → va_P (dC, dI) vwCl (mW h0 kB kI kZ q (upd (upd (upd (upd (upd (upd g 3 c300_g3) 4 c300_g4) 5 c300_g5) 6 c300_g6) 7 c300_g7) 8 c300_g8) (upF (upF (upF (upF F 14 c300_F14) 15 c300_F15) 16 c300_F16) 17 c300_F17)) H → va_D A (mW h0 kB kI kZ q (upd (upd (upd (upd (upd (upd g 3 c300_g3) 4 c300_g4) 5 c300_g5) 6 c300_g6) 7 c300_g7) 8 c300_g8) (upF (upF (upF (upF F 14 c300_F14) 15 c300_F15) 16 c300_F16) 17 c300_F17)) → va_S A s.heap H locs → lv_has ls 4 [(0, .ref h0), (1, .int x33)] → W p l e ({ frames := 8, cells := 0, slots := 0, locals := 390 } : Room) s m args below meth c H locs 0 0 Q (F0 m 300 ls []) := by
                          intro c300_g3 c300_g4 c300_g5 c300_g6 c300_g7 c300_g8 c300_F14 c300_F15 c300_F16 c300_F17 H locs ls hr hP hD hS hl
                          rw [hj300] at hr
                          refine lv_goto (tgt := 148) hx hb dX12_readLaw_300 (by decide) ?_
                          exact ih148 c300_g3 c300_g4 c300_g5 c300_g6 c300_g7 c300_g8 c300_F14 c300_F15 c300_F16 c300_F17 H _ ls hr hP hD hS (lv_sub hl [0, 1] rfl)
                        refine lv_icmp_ne (tgt := 252) hx hb dX12_readLaw_239 (by decide) (fun c239 => ?_) (fun c239 => ?_)
                        · replace hr := iteF c239 hr
                          refine lv_iload_n hx hb dX12_readLaw_252 rfl (lv_at hl 3 rfl) ?_
                          refine lv_bipush (v := 6) hx hb dX12_readLaw_253 (by decide +kernel) ?_
                          refine lv_icmp_ne (tgt := 268) hx hb dX12_readLaw_255 (by decide) (fun c255 => ?_) (fun c255 => ?_)
                          · replace hr := iteF c255 hr
                            refine lv_aload_n hx hb dX12_readLaw_268 rfl (lv_at hl 1 rfl) ?_
                            refine lv_aload_n hx hb dX12_readLaw_269 rfl (lv_at hl 1 rfl) ?_
                            refine va_get (D := (dC, dI)) (ci := 12) (v := .ref (q 14)) (C := RX12) (T := TX12) (N := 71) hx hb hts inX12 hown hK hP 0 rfl rfl 14 (by decide) (hts (.fieldLink RX12 30 "SpellTurnerModel" "lawText" "[B") im_72) (fun _ h9 => h9) rfl dX12_readLaw_270 ?_
                            refine lv_aload_n hx hb dX12_readLaw_273 rfl (lv_at hl 1 rfl) ?_
                            refine va_get (D := (dC, dI)) (ci := 12) (v := .ref (q 15)) (C := RX12) (T := TX12) (N := 71) hx hb hts inX12 hown hK hP 0 rfl rfl 15 (by decide) (hts (.fieldLink RX12 33 "SpellTurnerModel" "lawSize" "[I") im_71) (fun _ h9 => h9) rfl dX12_readLaw_274 ?_
                            refine lv_iconst (v := 4) hx hb dX12_readLaw_277 (by decide +kernel) ?_
                            refine lv_iload_n hx hb dX12_readLaw_278 rfl (lv_at hl 2 rfl) ?_
                            refine lv_imul hx hb dX12_readLaw_279 ?_
                            refine lv_iload_n hx hb dX12_readLaw_280 rfl (lv_at hl 3 rfl) ?_
                            refine lv_iadd hx hb dX12_readLaw_281 ?_
                            refine lv_bipush (v := 7) hx hb dX12_readLaw_282 (by decide +kernel) ?_
                            refine lv_isub hx hb dX12_readLaw_284 ?_
                            refine lv_iconst (v := 2) hx hb dX12_readLaw_285 (by decide +kernel) ?_
                            refine lv_iadd hx hb dX12_readLaw_286 ?_
                            refine lv_iconst (v := 1) hx hb dX12_readLaw_287 (by decide +kernel) ?_
                            replace hr := b5S hr
                            obtain ⟨r288z, c288_g7, c288_g8, c288_F14, c288_F15, hc288, hr⟩ := hr
                            have hFc := fr_all hD hS hA
                            refine va_calli (va_runV (As := [.ref (q 14), .ref (q 15), .int ((((4 * x33) + d148_g4) - 7) + 2), .int 1]) (rest := []) ⟨hx, hb, hml, hown, hts⟩ (m_take_14_15 l dC dI H.size h0 kB kI kZ q (upd (upd (upd (upd (upd (upd g 3 c234_g3) 4 c234_g4) 5 c234_g5) 6 c234_g6) 7 d148_g7) 8 d148_g8) (upF (upF (upF (upF F 14 d148_F14) 15 d148_F15) 16 d148_F16) 17 d148_F17) ((((4 * x33) + d148_g4) - 7) + 2) 1 r288z c288_g7 c288_g8 c288_F14 c288_F15 hc288) (cwV 4 hts gw_X12_take_203 rfl rfl rfl (by decide +kernel) ⟨Nat.le_of_ble_eq_true rfl, Nat.le_of_ble_eq_true rfl⟩) ⟨fun a U g mk q => by obtain ⟨q0, q1, qP, qK, qD⟩ := q; exact ⟨q0, q1, qP, va_K.moved (u := U) (U := U.calling g mk a) (Vm.Alike.refl U.vm) qK, qD⟩, va_recv hK hP (ci := 12) (q0 := 0) rfl rfl, fun U hU hW => ⟨rfl, by rw [hU], by rw [hU]; exact hP, va_K.moved hW.alike hK, hD.weaken (fun _ _ _ _ => trivial)⟩⟩ rfl rfl hl.1 rfl (lv_room (Nat.le_of_ble_eq_true rfl)) dX12_readLaw_288 ⟨Nat.le_of_ble_eq_true rfl, Nat.le_of_ble_eq_true rfl⟩) hS (fun q _ h => hFc q h) hFc (fun r288 u t H1 locs ht hvm hw hB hz1 hk1 hS => ?_)
                            replace hw : r288 = r288z := hw
                            subst hw
                            obtain ⟨hP1, hK1, hD1⟩ := hB
                            rw [ht] at hP1
                            obtain ⟨hP, hD⟩ := jn_all (w1 := (mW h0 kB kI kZ q (upd (upd (upd (upd (upd (upd g 3 c234_g3) 4 c234_g4) 5 c234_g5) 6 c234_g6) 7 c288_g7) 8 c288_g8) (upF (upF (upF (upF F 14 c288_F14) 15 c288_F15) 16 d148_F16) 17 d148_F17))) hFc hP1 hD1
                            clear hFc hP1 hK1 hD1 hk1 hz1 ht hvm
                            generalize H1 = H at hP hS ⊢
                            have hP : va_P (dC, dI) vwCl (mW h0 kB kI kZ q (upd (upd (upd (upd (upd (upd g 3 c234_g3) 4 c234_g4) 5 c234_g5) 6 c234_g6) 7 c288_g7) 8 c288_g8) (upF (upF (upF (upF F 14 c288_F14) 15 c288_F15) 16 d148_F16) 17 d148_F17)) H := hP
                            have hD : va_D A (mW h0 kB kI kZ q (upd (upd (upd (upd (upd (upd g 3 c234_g3) 4 c234_g4) 5 c234_g5) 6 c234_g6) 7 c288_g7) 8 c288_g8) (upF (upF (upF (upF F 14 c288_F14) 15 c288_F15) 16 d148_F16) 17 d148_F17)) := hD
                            refine lv_if_ne (tgt := 296) hx hb dX12_readLaw_291 (by decide) (fun c291 => ?_) (fun c291 => ?_)
                            · replace hr := iteF c291 hr
                              refine lv_aload_n hx hb dX12_readLaw_296 rfl (lv_at hl 1 rfl) ?_
                              replace hr := b4S hr
                              obtain ⟨c297_g3, c297_g4, c297_g5, c297_g6, hc297, hr⟩ := hr
                              have hFc := fr_all hD hS hA
                              refine va_callv (va_runV (As := []) (rest := []) ⟨hx, hb, hml, hown, hts⟩ (m_scan l dC dI adK adV H.size h0 kB kI kZ q (upd (upd (upd (upd (upd (upd g 3 c234_g3) 4 c234_g4) 5 c234_g5) 6 c234_g6) 7 c288_g7) 8 c288_g8) (upF (upF (upF (upF F 14 c288_F14) 15 c288_F15) 16 d148_F16) 17 d148_F17) c297_g3 c297_g4 c297_g5 c297_g6 hc297) (cwV 0 hts gw_X12_scan_200 rfl rfl rfl (by decide +kernel) ⟨Nat.le_of_ble_eq_true rfl, Nat.le_of_ble_eq_true rfl⟩) ⟨fun a U g mk q => by obtain ⟨q0, q1, qP, qK, qD, qS⟩ := q; exact ⟨q0, q1, qP, va_K.moved (u := U) (U := U.calling g mk a) (Vm.Alike.refl U.vm) qK, qD, qS.calling⟩, va_recv hK hP (ci := 12) (q0 := 0) rfl rfl, fun U hU hW => ⟨rfl, by rw [hU], by rw [hU]; exact hP, va_K.moved hW.alike hK, hD.weaken (fun _ _ _ _ => trivial), (hSE.warm hS hU hW).narrow hFc⟩⟩ rfl rfl hl.1 rfl (lv_room (Nat.le_of_ble_eq_true rfl)) dX12_readLaw_297 ⟨Nat.le_of_ble_eq_true rfl, Nat.le_of_ble_eq_true rfl⟩) hS (fun q _ h => hFc q h) hFc (fun u t H1 locs ht hvm hw hB hz1 hk1 hS => ?_)
                              obtain ⟨hP1, hK1, hD1⟩ := hB
                              rw [ht] at hP1
                              obtain ⟨hP, hD⟩ := jn_all (w1 := (mW h0 kB kI kZ q (upd (upd (upd (upd (upd (upd g 3 c297_g3) 4 c297_g4) 5 c297_g5) 6 c297_g6) 7 c288_g7) 8 c288_g8) (upF (upF (upF (upF F 14 c288_F14) 15 c288_F15) 16 d148_F16) 17 d148_F17))) hFc hP1 hD1
                              clear hFc hP1 hK1 hD1 hk1 hz1 ht hvm
                              generalize H1 = H at hP hS ⊢
                              have hP : va_P (dC, dI) vwCl (mW h0 kB kI kZ q (upd (upd (upd (upd (upd (upd g 3 c297_g3) 4 c297_g4) 5 c297_g5) 6 c297_g6) 7 c288_g7) 8 c288_g8) (upF (upF (upF (upF F 14 c288_F14) 15 c288_F15) 16 d148_F16) 17 d148_F17)) H := hP
                              have hD : va_D A (mW h0 kB kI kZ q (upd (upd (upd (upd (upd (upd g 3 c297_g3) 4 c297_g4) 5 c297_g5) 6 c297_g6) 7 c288_g7) 8 c288_g8) (upF (upF (upF (upF F 14 c288_F14) 15 c288_F15) 16 d148_F16) 17 d148_F17)) := hD
                              exact Jj300 c297_g3 c297_g4 c297_g5 c297_g6 c288_g7 c288_g8 c288_F14 c288_F15 d148_F16 d148_F17 H _ ls hr hP hD hS (lv_sub hl [1, 2] rfl)
                            · replace hr := iteT c291 hr
                              refine lv_iconst (v := 0) hx hb dX12_readLaw_294 (by decide +kernel) ?_
                              first | exact K 295 ls _ _ _ _ _ _ _ _ _ _ _ _ H _ hr (by decide) dX12_readLaw_295 (sP_eq (mW_cg (by repeat (first | with_reducible rfl | with_reducible refine upd_cg ?_ | refine Eq.trans ?_ (upd_id rfl))) (by repeat (first | with_reducible rfl | with_reducible refine upF_cg ?_ | refine Eq.trans ?_ (upF_id rfl)))) hP) (sD_eq (mW_cg (by repeat (first | with_reducible rfl | with_reducible refine upd_cg ?_ | refine Eq.trans ?_ (upd_id rfl))) (by repeat (first | with_reducible rfl | with_reducible refine upF_cg ?_ | refine Eq.trans ?_ (upF_id rfl)))) hD) hS | exact K 295 ls _ _ _ _ _ _ _ _ _ _ _ _ H _ hr (by decide) dX12_readLaw_295 hP hD hS
                          · replace hr := iteT c255 hr
                            refine lv_aload_n hx hb dX12_readLaw_258 rfl (lv_at hl 1 rfl) ?_
                            refine va_get (D := (dC, dI)) (ci := 12) (v := .ref (q 17)) (C := RX12) (T := TX12) (N := 71) hx hb hts inX12 hown hK hP 0 rfl rfl 17 (by decide) (hts (.fieldLink RX12 40 "SpellTurnerModel" "atEnd" "[Z") im_156) (fun _ h9 => h9) rfl dX12_readLaw_259 ?_
                            refine lv_iload_n hx hb dX12_readLaw_262 rfl (lv_at hl 2 rfl) ?_
                            refine lv_iconst (v := 1) hx hb dX12_readLaw_263 (by decide +kernel) ?_
                            replace hr := iteS hr
                            obtain ⟨hi264, hr⟩ := hr
                            refine va_zast (f := d148_F17) hx hb hK hP hD hS 9 2 rfl rfl (inbV hi264) dX12_readLaw_264 (fun H locs hP hD hS => ?_)
                            obtain ⟨w264, ew264, hP, hD⟩ : ∃ w264 : Nat → Int32, w264 = (upd d148_F17 (Int32.toNatClampNeg x33) (vp_nar .boolean 1)) ∧ va_P (dC, dI) vwCl (mW h0 kB kI kZ q (upd (upd (upd (upd (upd (upd g 3 c234_g3) 4 c234_g4) 5 c234_g5) 6 c234_g6) 7 d148_g7) 8 d148_g8) (upF (upF (upF (upF F 14 d148_F14) 15 d148_F15) 16 d148_F16) 17 w264)) H ∧ va_D A (mW h0 kB kI kZ q (upd (upd (upd (upd (upd (upd g 3 c234_g3) 4 c234_g4) 5 c234_g5) 6 c234_g6) 7 d148_g7) 8 d148_g8) (upF (upF (upF (upF F 14 d148_F14) 15 d148_F15) 16 d148_F16) 17 w264)) := ⟨(upd d148_F17 (Int32.toNatClampNeg x33) (vp_nar .boolean 1)), rfl, by first | exact sP_F17 hP upF_same | exact sP_F17 hP rfl | exact hP, by first | exact sD_F17 hD upF_same | exact sD_F17 hD rfl | exact hD⟩
                            replace hr := vlS hr w264 ew264
                            clear ew264
                            refine lv_goto (tgt := 300) hx hb dX12_readLaw_265 (by decide) ?_
                            exact Jj300 c234_g3 c234_g4 c234_g5 c234_g6 d148_g7 d148_g8 d148_F14 d148_F15 d148_F16 w264 H _ ls hr hP hD hS (lv_sub hl [1, 2] rfl)
                        · replace hr := iteT c239 hr
                          refine lv_aload_n hx hb dX12_readLaw_242 rfl (lv_at hl 1 rfl) ?_
                          refine va_get (D := (dC, dI)) (ci := 12) (v := .ref (q 16)) (C := RX12) (T := TX12) (N := 71) hx hb hts inX12 hown hK hP 0 rfl rfl 16 (by decide) (hts (.fieldLink RX12 36 "SpellTurnerModel" "atStart" "[Z") im_155) (fun _ h9 => h9) rfl dX12_readLaw_243 ?_
                          refine lv_iload_n hx hb dX12_readLaw_246 rfl (lv_at hl 2 rfl) ?_
                          refine lv_iconst (v := 1) hx hb dX12_readLaw_247 (by decide +kernel) ?_
                          replace hr := iteS hr
                          obtain ⟨hi248, hr⟩ := hr
                          refine va_zast (f := d148_F16) hx hb hK hP hD hS 8 2 rfl rfl (inbV hi248) dX12_readLaw_248 (fun H locs hP hD hS => ?_)
                          obtain ⟨w248, ew248, hP, hD⟩ : ∃ w248 : Nat → Int32, w248 = (upd d148_F16 (Int32.toNatClampNeg x33) (vp_nar .boolean 1)) ∧ va_P (dC, dI) vwCl (mW h0 kB kI kZ q (upd (upd (upd (upd (upd (upd g 3 c234_g3) 4 c234_g4) 5 c234_g5) 6 c234_g6) 7 d148_g7) 8 d148_g8) (upF (upF (upF (upF F 14 d148_F14) 15 d148_F15) 16 w248) 17 d148_F17)) H ∧ va_D A (mW h0 kB kI kZ q (upd (upd (upd (upd (upd (upd g 3 c234_g3) 4 c234_g4) 5 c234_g5) 6 c234_g6) 7 d148_g7) 8 d148_g8) (upF (upF (upF (upF F 14 d148_F14) 15 d148_F15) 16 w248) 17 d148_F17)) := ⟨(upd d148_F16 (Int32.toNatClampNeg x33) (vp_nar .boolean 1)), rfl, by first | exact sP_F16 hP (upF_in (by decide) upF_same) | exact sP_F16 hP (upF_in (by decide) rfl) | exact hP, by first | exact sD_F16 hD (upF_in (by decide) upF_same) | exact sD_F16 hD (upF_in (by decide) rfl) | exact hD⟩
                          replace hr := vlS hr w248 ew248
                          clear ew248
                          refine lv_goto (tgt := 300) hx hb dX12_readLaw_249 (by decide) ?_
                          exact Jj300 c234_g3 c234_g4 c234_g5 c234_g6 d148_g7 d148_g8 d148_F14 d148_F15 w248 d148_F17 H _ ls hr hP hD hS (lv_sub hl [1, 2] rfl)
                      · replace hr := iteF c224 hr
                        refine lv_aload_n hx hb dX12_readLaw_227 rfl (lv_at hl 1 rfl) ?_
                        refine lv_iconst (v := 3) hx hb dX12_readLaw_228 (by decide +kernel) ?_
                        replace hr := b3S hr
                        obtain ⟨r229z, c229_g7, c229_g8, hc229, hr⟩ := hr
                        have hFc := fr_all hD hS hA
                        refine va_calli (va_runV (As := [.int 3]) (rest := []) ⟨hx, hb, hml, hown, hts⟩ (m_wrong l dC dI H.size h0 kB kI kZ q (upd (upd (upd (upd (upd (upd g 3 d148_g3) 4 d148_g4) 5 d148_g5) 6 d148_g6) 7 d148_g7) 8 d148_g8) (upF (upF (upF (upF F 14 d148_F14) 15 d148_F15) 16 d148_F16) 17 d148_F17) 3 r229z c229_g7 c229_g8 hc229) (cwV 1 hts gw_X12_wrong_197 rfl rfl rfl (by decide +kernel) ⟨Nat.le_of_ble_eq_true rfl, Nat.le_of_ble_eq_true rfl⟩) ⟨fun a U g mk q => by obtain ⟨q0, q1, qP, qK, qD⟩ := q; exact ⟨q0, q1, qP, va_K.moved (u := U) (U := U.calling g mk a) (Vm.Alike.refl U.vm) qK, qD⟩, va_recv hK hP (ci := 12) (q0 := 0) rfl rfl, fun U hU hW => ⟨rfl, by rw [hU], by rw [hU]; exact hP, va_K.moved hW.alike hK, hD.weaken (fun _ _ _ _ => trivial)⟩⟩ rfl rfl hl.1 rfl (lv_room (Nat.le_of_ble_eq_true rfl)) dX12_readLaw_229 ⟨Nat.le_of_ble_eq_true rfl, Nat.le_of_ble_eq_true rfl⟩) hS (fun q _ h => hFc q h) hFc (fun r229 u t H1 locs ht hvm hw hB hz1 hk1 hS => ?_)
                        replace hw : r229 = r229z := hw
                        subst hw
                        obtain ⟨hP1, hK1, hD1⟩ := hB
                        rw [ht] at hP1
                        obtain ⟨hP, hD⟩ := jn_all (w1 := (mW h0 kB kI kZ q (upd (upd (upd (upd (upd (upd g 3 d148_g3) 4 d148_g4) 5 d148_g5) 6 d148_g6) 7 c229_g7) 8 c229_g8) (upF (upF (upF (upF F 14 d148_F14) 15 d148_F15) 16 d148_F16) 17 d148_F17))) hFc hP1 hD1
                        clear hFc hP1 hK1 hD1 hk1 hz1 ht hvm
                        generalize H1 = H at hP hS ⊢
                        have hP : va_P (dC, dI) vwCl (mW h0 kB kI kZ q (upd (upd (upd (upd (upd (upd g 3 d148_g3) 4 d148_g4) 5 d148_g5) 6 d148_g6) 7 c229_g7) 8 c229_g8) (upF (upF (upF (upF F 14 d148_F14) 15 d148_F15) 16 d148_F16) 17 d148_F17)) H := hP
                        have hD : va_D A (mW h0 kB kI kZ q (upd (upd (upd (upd (upd (upd g 3 d148_g3) 4 d148_g4) 5 d148_g5) 6 d148_g6) 7 c229_g7) 8 c229_g8) (upF (upF (upF (upF F 14 d148_F14) 15 d148_F15) 16 d148_F16) 17 d148_F17)) := hD
                        replace hr := iteS hr
                        obtain ⟨hz232, hr⟩ := hr
                        first | exact K 232 ls _ _ _ _ _ _ _ _ _ _ _ _ H _ hr hz232 dX12_readLaw_232 (sP_eq (mW_cg (by repeat (first | with_reducible rfl | with_reducible refine upd_cg ?_ | refine Eq.trans ?_ (upd_id rfl))) (by repeat (first | with_reducible rfl | with_reducible refine upF_cg ?_ | refine Eq.trans ?_ (upF_id rfl)))) hP) (sD_eq (mW_cg (by repeat (first | with_reducible rfl | with_reducible refine upd_cg ?_ | refine Eq.trans ?_ (upd_id rfl))) (by repeat (first | with_reducible rfl | with_reducible refine upF_cg ?_ | refine Eq.trans ?_ (upF_id rfl)))) hD) hS | exact K 232 ls _ _ _ _ _ _ _ _ _ _ _ _ H _ hr hz232 dX12_readLaw_232 hP hD hS
                    refine lv_icmp_ne (tgt := 183) hx hb dX12_readLaw_171 (by decide) (fun c171 => ?_) (fun c171 => ?_)
                    · replace hr := iteF c171 hr
                      refine lv_iload_n hx hb dX12_readLaw_183 rfl (lv_at hl 0 rfl) ?_
                      refine lv_bipush (v := 6) hx hb dX12_readLaw_184 (by decide +kernel) ?_
                      refine lv_icmp_ne (tgt := 198) hx hb dX12_readLaw_186 (by decide) (fun c186 => ?_) (fun c186 => ?_)
                      · replace hr := iteF c186 hr
                        refine lv_aload_n hx hb dX12_readLaw_198 rfl (lv_at hl 1 rfl) ?_
                        refine va_get (D := (dC, dI)) (ci := 12) (v := .ref (q 15)) (C := RX12) (T := TX12) (N := 71) hx hb hts inX12 hown hK hP 0 rfl rfl 15 (by decide) (hts (.fieldLink RX12 33 "SpellTurnerModel" "lawSize" "[I") im_71) (fun _ h9 => h9) rfl dX12_readLaw_199 ?_
                        refine lv_iconst (v := 4) hx hb dX12_readLaw_202 (by decide +kernel) ?_
                        refine lv_iload_n hx hb dX12_readLaw_203 rfl (lv_at hl 2 rfl) ?_
                        refine lv_imul hx hb dX12_readLaw_204 ?_
                        refine lv_iload_n hx hb dX12_readLaw_205 rfl (lv_at hl 0 rfl) ?_
                        refine lv_iadd hx hb dX12_readLaw_206 ?_
                        refine lv_bipush (v := 7) hx hb dX12_readLaw_207 (by decide +kernel) ?_
                        refine lv_isub hx hb dX12_readLaw_209 ?_
                        refine lv_iconst (v := 2) hx hb dX12_readLaw_210 (by decide +kernel) ?_
                        refine lv_iadd hx hb dX12_readLaw_211 ?_
                        replace hr := iteS hr
                        obtain ⟨hi212, hr⟩ := hr
                        refine va_iald (f := d148_F15) hx hb hK hP 7 1 rfl rfl (inbV hi212) dX12_readLaw_212 ?_
                        refine lv_iconst (v := (-1)) hx hb dX12_readLaw_213 (by decide +kernel) ?_
                        refine lv_icmp_eq (tgt := 221) hx hb dX12_readLaw_214 (by decide) (fun c214 => ?_) (fun c214 => ?_)
                        · replace hr := iteT c214 hr
                          refine lv_iconst (v := 0) hx hb dX12_readLaw_221 (by decide +kernel) ?_
                          exact Jj222 0 H _ ls hr hP hD hS (lv_sub hl [1, 2, 0] rfl)
                        · replace hr := iteF c214 hr
                          refine lv_iconst (v := 1) hx hb dX12_readLaw_217 (by decide +kernel) ?_
                          refine lv_goto (tgt := 222) hx hb dX12_readLaw_218 (by decide) ?_
                          exact Jj222 1 H _ ls hr hP hD hS (lv_sub hl [1, 2, 0] rfl)
                      · replace hr := iteT c186 hr
                        refine lv_aload_n hx hb dX12_readLaw_189 rfl (lv_at hl 1 rfl) ?_
                        refine va_get (D := (dC, dI)) (ci := 12) (v := .ref (q 17)) (C := RX12) (T := TX12) (N := 71) hx hb hts inX12 hown hK hP 0 rfl rfl 17 (by decide) (hts (.fieldLink RX12 40 "SpellTurnerModel" "atEnd" "[Z") im_156) (fun _ h9 => h9) rfl dX12_readLaw_190 ?_
                        refine lv_iload_n hx hb dX12_readLaw_193 rfl (lv_at hl 2 rfl) ?_
                        replace hr := iteS hr
                        obtain ⟨hi194, hr⟩ := hr
                        refine va_zald (f := d148_F17) hx hb hK hP 9 2 rfl rfl (inbV hi194) dX12_readLaw_194 ?_
                        refine lv_goto (tgt := 222) hx hb dX12_readLaw_195 (by decide) ?_
                        exact Jj222 (d148_F17 (Int32.toNatClampNeg x33)) H _ ls hr hP hD hS (lv_sub hl [1, 2, 0] rfl)
                    · replace hr := iteT c171 hr
                      refine lv_aload_n hx hb dX12_readLaw_174 rfl (lv_at hl 1 rfl) ?_
                      refine va_get (D := (dC, dI)) (ci := 12) (v := .ref (q 16)) (C := RX12) (T := TX12) (N := 71) hx hb hts inX12 hown hK hP 0 rfl rfl 16 (by decide) (hts (.fieldLink RX12 36 "SpellTurnerModel" "atStart" "[Z") im_155) (fun _ h9 => h9) rfl dX12_readLaw_175 ?_
                      refine lv_iload_n hx hb dX12_readLaw_178 rfl (lv_at hl 2 rfl) ?_
                      replace hr := iteS hr
                      obtain ⟨hi179, hr⟩ := hr
                      refine va_zald (f := d148_F16) hx hb hK hP 8 2 rfl rfl (inbV hi179) dX12_readLaw_179 ?_
                      refine lv_goto (tgt := 222) hx hb dX12_readLaw_180 (by decide) ?_
                      exact Jj222 (d148_F16 (Int32.toNatClampNeg x33)) H _ ls hr hP hD hS (lv_sub hl [1, 2, 0] rfl)
            exact lp148 NN c109_g3 c109_g4 c109_g5 c109_g6 c100_g7 c100_g8 c100_F14 w147 w118 w125 H _ ls hr hP hD hS (lv_sub hl [1, 0] rfl)
          · replace hr := iteT c103 hr
            refine lv_iconst (v := 0) hx hb dX12_readLaw_106 (by decide +kernel) ?_
            first | exact K 107 ls _ _ _ _ _ _ _ _ _ _ _ _ H _ hr (by decide) dX12_readLaw_107 (sP_eq (mW_cg (by repeat (first | with_reducible rfl | with_reducible refine upd_cg ?_ | refine Eq.trans ?_ (upd_id rfl))) (by repeat (first | with_reducible rfl | with_reducible refine upF_cg ?_ | refine Eq.trans ?_ (upF_id rfl)))) hP) (sD_eq (mW_cg (by repeat (first | with_reducible rfl | with_reducible refine upd_cg ?_ | refine Eq.trans ?_ (upd_id rfl))) (by repeat (first | with_reducible rfl | with_reducible refine upF_cg ?_ | refine Eq.trans ?_ (upF_id rfl)))) hD) hS | exact K 107 ls _ _ _ _ _ _ _ _ _ _ _ _ H _ hr (by decide) dX12_readLaw_107 hP hD hS
        · replace hr := iteF c72 hr
          exact Jj75 H _ ls hr hP hD hS (lv_sub hl [1] rfl)
    · replace hr := iteT c50 hr
      refine lv_iconst (v := 0) hx hb dX12_readLaw_53 (by decide +kernel) ?_
      first | exact K 54 ls _ _ _ _ _ _ _ _ _ _ _ _ H _ hr (by decide) dX12_readLaw_54 (sP_eq (mW_cg (by repeat (first | with_reducible rfl | with_reducible refine upd_cg ?_ | refine Eq.trans ?_ (upd_id rfl))) (by repeat (first | with_reducible rfl | with_reducible refine upF_cg ?_ | refine Eq.trans ?_ (upF_id rfl)))) hP) (sD_eq (mW_cg (by repeat (first | with_reducible rfl | with_reducible refine upd_cg ?_ | refine Eq.trans ?_ (upd_id rfl))) (by repeat (first | with_reducible rfl | with_reducible refine upF_cg ?_ | refine Eq.trans ?_ (upF_id rfl)))) hD) hS | exact K 54 ls _ _ _ _ _ _ _ _ _ _ _ _ H _ hr (by decide) dX12_readLaw_54 hP hD hS
  · replace hr := iteT c9 hr
    refine lv_aload_n hx hb dX12_readLaw_12 rfl (lv_at hl 0 rfl) ?_
    refine lv_iconst (v := 4) hx hb dX12_readLaw_13 (by decide +kernel) ?_
    replace hr := b3S hr
    obtain ⟨r14z, c14_g7, c14_g8, hc14, hr⟩ := hr
    have hFc := fr_all hD hS hA
    refine va_calli (va_runV (As := [.int 4]) (rest := []) ⟨hx, hb, hml, hown, hts⟩ (m_wrong l dC dI H.size h0 kB kI kZ q g F 4 r14z c14_g7 c14_g8 hc14) (cwV 1 hts gw_X12_wrong_197 rfl rfl rfl (by decide +kernel) ⟨Nat.le_of_ble_eq_true rfl, Nat.le_of_ble_eq_true rfl⟩) ⟨fun a U g mk q => by obtain ⟨q0, q1, qP, qK, qD⟩ := q; exact ⟨q0, q1, qP, va_K.moved (u := U) (U := U.calling g mk a) (Vm.Alike.refl U.vm) qK, qD⟩, va_recv hK hP (ci := 12) (q0 := 0) rfl rfl, fun U hU hW => ⟨rfl, by rw [hU], by rw [hU]; exact hP, va_K.moved hW.alike hK, hD.weaken (fun _ _ _ _ => trivial)⟩⟩ rfl rfl hl.1 rfl (lv_room (Nat.le_of_ble_eq_true rfl)) dX12_readLaw_14 ⟨Nat.le_of_ble_eq_true rfl, Nat.le_of_ble_eq_true rfl⟩) hS (fun q _ h => hFc q h) hFc (fun r14 u t H1 locs ht hvm hw hB hz1 hk1 hS => ?_)
    replace hw : r14 = r14z := hw
    subst hw
    obtain ⟨hP1, hK1, hD1⟩ := hB
    rw [ht] at hP1
    obtain ⟨hP, hD⟩ := jn_all (w1 := (mW h0 kB kI kZ q (upd (upd g 7 c14_g7) 8 c14_g8) F)) hFc hP1 hD1
    clear hFc hP1 hK1 hD1 hk1 hz1 ht hvm
    generalize H1 = H at hP hS ⊢
    have hP : va_P (dC, dI) vwCl (mW h0 kB kI kZ q (upd (upd g 7 c14_g7) 8 c14_g8) F) H := hP
    have hD : va_D A (mW h0 kB kI kZ q (upd (upd g 7 c14_g7) 8 c14_g8) F) := hD
    replace hr := iteS hr
    obtain ⟨hz17, hr⟩ := hr
    first | exact K 17 ls _ _ _ _ _ _ _ _ _ _ _ _ H _ hr hz17 dX12_readLaw_17 (sP_eq (mW_cg (by repeat (first | with_reducible rfl | with_reducible refine upd_cg ?_ | refine Eq.trans ?_ (upd_id rfl))) (by repeat (first | with_reducible rfl | with_reducible refine upF_cg ?_ | refine Eq.trans ?_ (upF_id rfl)))) hP) (sD_eq (mW_cg (by repeat (first | with_reducible rfl | with_reducible refine upd_cg ?_ | refine Eq.trans ?_ (upd_id rfl))) (by repeat (first | with_reducible rfl | with_reducible refine upF_cg ?_ | refine Eq.trans ?_ (upF_id rfl)))) hD) hS | exact K 17 ls _ _ _ _ _ _ _ _ _ _ _ _ H _ hr hz17 dX12_readLaw_17 hP hD hS
set_option maxHeartbeats 4000000 in
set_option maxRecDepth 100000 in
theorem m_readLaw (l : Launch) (dC : Nat → ClassId) (dI : Nat → Nat → Nat) (adK adV : Nat → Nat) (sz : Nat) (h0 : Nat) (kB kI kZ : ClassId) (q : Nat → Nat) (g : Nat → Int32) (F : Nat → Nat → Int32) (r : Int32) (c_g3 : Int32) (c_g4 : Int32) (c_g5 : Int32) (c_g6 : Int32) (c_g7 : Int32) (c_g8 : Int32) (c_F11 : (Nat → Int32)) (c_F14 : (Nat → Int32)) (c_F15 : (Nat → Int32)) (c_F16 : (Nat → Int32)) (c_F17 : (Nat → Int32)) (hr : f_readLaw g F = some (r, c_g3, c_g4, c_g5, c_g6, c_g7, c_g8, c_F11, c_F14, c_F15, c_F16, c_F17)) : Met l yX12_readLaw vmX12_readLaw ({ frames := 8, cells := 0, slots := 0, locals := 390 } : Room) (va_Pc [.ref h0] (fun U => U.heap.size = sz ∧ va_P (dC, dI) vwCl (mW h0 kB kI kZ q g F) U.heap ∧ va_K (dC, dI) vwCl (mT kB kI kZ) U ∧ va_D (fun _ => True) (mW h0 kB kI kZ q g F) ∧ SE adK adV (va_A (mW h0 kB kI kZ q g F) sz) U)) (va_Qi (fun (rz : Int32) (_ : Unit) => rz = r) (fun _ t => va_P (dC, dI) vwCl (mW h0 kB kI kZ q (upd (upd (upd (upd (upd (upd g 3 c_g3) 4 c_g4) 5 c_g5) 6 c_g6) 7 c_g7) 8 c_g8) (upF (upF (upF (upF (upF F 11 c_F11) 14 c_F14) 15 c_F15) 16 c_F16) 17 c_F17)) t.heap ∧ va_K (dC, dI) vwCl (mT kB kI kZ) t ∧ va_D (va_A (mW h0 kB kI kZ q g F) sz) (mW h0 kB kI kZ q (upd (upd (upd (upd (upd (upd g 3 c_g3) 4 c_g4) 5 c_g5) 6 c_g6) 7 c_g7) 8 c_g8) (upF (upF (upF (upF (upF F 11 c_F11) 14 c_F14) 15 c_F15) 16 c_F16) 17 c_F17))) (va_A (mW h0 kB kI kZ q g F) sz)) 0 0 (va_A (mW h0 kB kI kZ q g F) sz) := by
  refine Met.ofW (cc := cX12_readLaw) (maxL := 4) (ret := (some .boolean)) (by decide) rfl ?_
  intro p e s m args below meth c s₁ B hml hv
  obtain ⟨rfl, hsz, hP, hK, hD0, hSE⟩ := hv
  have hx := B.exec
  have hb := B.bytes
  have hrt := B.returns
  have hts := atoms_spec (ws := vmX12_readLaw) B.pre
  have hown : s.vm.findClass RX12 = some m.cls := findClass_of_methodNamed B.named
  subst hsz
  have hD := hD0.self (sz := s.heap.size)
  generalize hAe : va_A (mW h0 kB kI kZ q g F) s.heap.size = A at hD hSE ⊢
  have hA : ∀ q : Nat, s.heap.size ≤ q → A q := fun q h => by rw [← hAe]; exact Or.inr h
  have hS : va_S A s.heap s.heap [] := va_S.rf
  have hl := lv_entry ([.ref h0]) (n := 4) (Nat.le_of_ble_eq_true rfl)
  rw [lg_entry_eq]
  generalize (lg_sl ([.ref h0]) ++ List.replicate (4 - (lg_sl ([.ref h0])).length) Slot.unset).toArray = ls at hl ⊢
  exact bm_readLaw r c_g3 c_g4 c_g5 c_g6 c_g7 c_g8 c_F11 c_F14 c_F15 c_F16 c_F17 hr hx hb hml hown hts hA hK hSE hP hD hS hl (fun pc ls rz c_g3z c_g4z c_g5z c_g6z c_g7z c_g8z c_F11z c_F14z c_F15z c_F16z c_F17z H locs he hz hd hP hD hS => by cases he; exact W.zret (v := r) hx hb hrt (z_nb hz) (fun t ht hW => ⟨⟨r, (), rfl, rfl, by rw [ht]; exact hP, va_K.moved hW.alike hK, hD⟩, hS.F ht⟩) hS.2.2 hd)
set_option maxHeartbeats 4000000 in
set_option maxRecDepth 100000 in
theorem bm_readItem {p : Program} {l : Launch} {e : Env} {s : State} {m : MethodId} {args : Array Value} {below : List Frame} {meth : Method} {c : Code} {Q : State → Prop} {A : Nat → Prop} {dC : Nat → ClassId} {dI : Nat → Nat → Nat} {h0 : Nat} {kB kI kZ : ClassId} {q : Nat → Nat} {g : Nat → Int32} {F : Nat → Nat → Int32} {H : Heap} {locs : List Loc} {ls : Array Slot} (r : Int32) (c_g3 : Int32) (c_g4 : Int32) (c_g5 : Int32) (c_g6 : Int32) (c_g7 : Int32) (c_g8 : Int32) (c_F11 : (Nat → Int32)) (c_F12 : (Nat → Int32)) (c_F13 : (Nat → Int32)) (c_F14 : (Nat → Int32)) (c_F15 : (Nat → Int32)) (c_F16 : (Nat → Int32)) (c_F17 : (Nat → Int32)) (c_F18 : (Nat → Int32)) (c_F19 : (Nat → Int32)) (c_F20 : (Nat → Int32)) (c_F21 : (Nat → Int32)) (hr : f_readItem g F = some (r, c_g3, c_g4, c_g5, c_g6, c_g7, c_g8, c_F11, c_F12, c_F13, c_F14, c_F15, c_F16, c_F17, c_F18, c_F19, c_F20, c_F21)) (hx : p.tables.exec = Jvm.exec) (hb : c.code = cX12_readItem) (hml : c.maxLocals = 2) (hown : s.vm.findClass RX12 = some m.cls) (hts : ∀ w ∈ vmX12_readItem, w.before args s = true) (hA : ∀ q : Nat, s.heap.size ≤ q → A q) (hK : va_K (dC, dI) vwCl (mT kB kI kZ) s) {adK adV : Nat → Nat} (hSE : SE adK adV A s) (hP : va_P (dC, dI) vwCl (mW h0 kB kI kZ q g F) H) (hD : va_D A (mW h0 kB kI kZ q g F)) (hS : va_S A s.heap H locs) (hl : lv_has ls 2 [(0, .ref h0)])
    (K : ∀ (pc : Nat) (ls : Array Slot) (rz : Int32) (c_g3z : Int32) (c_g4z : Int32) (c_g5z : Int32) (c_g6z : Int32) (c_g7z : Int32) (c_g8z : Int32) (c_F11z : (Nat → Int32)) (c_F12z : (Nat → Int32)) (c_F13z : (Nat → Int32)) (c_F14z : (Nat → Int32)) (c_F15z : (Nat → Int32)) (c_F16z : (Nat → Int32)) (c_F17z : (Nat → Int32)) (c_F18z : (Nat → Int32)) (c_F19z : (Nat → Int32)) (c_F20z : (Nat → Int32)) (c_F21z : (Nat → Int32)) (H : Heap) (locs : List Loc), some (rz, c_g3z, c_g4z, c_g5z, c_g6z, c_g7z, c_g8z, c_F11z, c_F12z, c_F13z, c_F14z, c_F15z, c_F16z, c_F17z, c_F18z, c_F19z, c_F20z, c_F21z) = some (r, c_g3, c_g4, c_g5, c_g6, c_g7, c_g8, c_F11, c_F12, c_F13, c_F14, c_F15, c_F16, c_F17, c_F18, c_F19, c_F20, c_F21) → is01 rz → decode cX12_readItem pc = .ok (.ireturn, 1) → va_P (dC, dI) vwCl (mW h0 kB kI kZ q (upd (upd (upd (upd (upd (upd g 3 c_g3z) 4 c_g4z) 5 c_g5z) 6 c_g6z) 7 c_g7z) 8 c_g8z) (upF (upF (upF (upF (upF (upF (upF (upF (upF (upF (upF F 11 c_F11z) 12 c_F12z) 13 c_F13z) 14 c_F14z) 15 c_F15z) 16 c_F16z) 17 c_F17z) 18 c_F18z) 19 c_F19z) 20 c_F20z) 21 c_F21z)) H → va_D A (mW h0 kB kI kZ q (upd (upd (upd (upd (upd (upd g 3 c_g3z) 4 c_g4z) 5 c_g5z) 6 c_g6z) 7 c_g7z) 8 c_g8z) (upF (upF (upF (upF (upF (upF (upF (upF (upF (upF (upF F 11 c_F11z) 12 c_F12z) 13 c_F13z) 14 c_F14z) 15 c_F15z) 16 c_F16z) 17 c_F17z) 18 c_F18z) 19 c_F19z) 20 c_F20z) 21 c_F21z)) → va_S A s.heap H locs → W p l e ({ frames := 9, cells := 0, slots := 0, locals := 413 } : Room) s m args below meth c H locs 0 0 Q (F0 m pc ls [.int rz])) : W p l e ({ frames := 9, cells := 0, slots := 0, locals := 413 } : Room) s m args below meth c H locs 0 0 Q (F0 m 0 ls []) := by
  unfold f_readItem at hr
  refine lv_aload_n hx hb dX12_readItem_0 rfl (lv_at hl 0 rfl) ?_
  refine va_get (D := (dC, dI)) (ci := 12) (v := .int (g 3)) (C := RX12) (T := TX12) (N := 71) hx hb hts inX12 hown hK hP 0 rfl rfl 3 (by decide) (hts (.fieldLink RX12 180 "SpellTurnerModel" "sort" "I") im_65) (fun _ h9 => h9) rfl dX12_readItem_1 ?_
  refine lv_iconst (v := 1) hx hb dX12_readItem_4 (by decide +kernel) ?_
  refine lv_icmp_eq (tgt := 14) hx hb dX12_readItem_5 (by decide) (fun c5 => ?_) (fun c5 => ?_)
  · replace hr := iteT c5 hr
    refine lv_aload_n hx hb dX12_readItem_14 rfl (lv_at hl 0 rfl) ?_
    refine va_get (D := (dC, dI)) (ci := 12) (v := .int (g 4)) (C := RX12) (T := TX12) (N := 71) hx hb hts inX12 hown hK hP 0 rfl rfl 4 (by decide) (hts (.fieldLink RX12 191 "SpellTurnerModel" "what" "I") im_252) (fun _ h9 => h9) rfl dX12_readItem_15 ?_
    replace hr := jnS hr
    obtain ⟨j88, hj88, hr⟩ := hr
    have Jj88 : ∀ (x88_1 : Int32) (c88_g3 : Int32) (c88_g4 : Int32) (c88_g5 : Int32) (c88_g6 : Int32) (c88_g7 : Int32) (c88_g8 : Int32) (c88_F11 : (Nat → Int32)) (c88_F12 : (Nat → Int32)) (c88_F13 : (Nat → Int32)) (c88_F14 : (Nat → Int32)) (c88_F15 : (Nat → Int32)) (c88_F16 : (Nat → Int32)) (c88_F17 : (Nat → Int32)) (c88_F18 : (Nat → Int32)) (c88_F19 : (Nat → Int32)) (c88_F20 : (Nat → Int32)) (c88_F21 : (Nat → Int32)) (H : Heap) (locs : List Loc) (ls : Array Slot), j88 x88_1 c88_g3 c88_g4 c88_g5 c88_g6 c88_g7 c88_g8 c88_F11 c88_F12 c88_F13 c88_F14 c88_F15 c88_F16 c88_F17 c88_F18 c88_F19 c88_F20 c88_F21 = some (r, c_g3, c_g4, c_g5, c_g6, c_g7, c_g8, c_F11, c_F12, c_F13, c_F14, c_F15, c_F16, c_F17, c_F18, c_F19, c_F20, c_F21) → va_P (dC, dI) vwCl (mW h0 kB kI kZ q (upd (upd (upd (upd (upd (upd g 3 c88_g3) 4 c88_g4) 5 c88_g5) 6 c88_g6) 7 c88_g7) 8 c88_g8) (upF (upF (upF (upF (upF (upF (upF (upF (upF (upF (upF F 11 c88_F11) 12 c88_F12) 13 c88_F13) 14 c88_F14) 15 c88_F15) 16 c88_F16) 17 c88_F17) 18 c88_F18) 19 c88_F19) 20 c88_F20) 21 c88_F21)) H → va_D A (mW h0 kB kI kZ q (upd (upd (upd (upd (upd (upd g 3 c88_g3) 4 c88_g4) 5 c88_g5) 6 c88_g6) 7 c88_g7) 8 c88_g8) (upF (upF (upF (upF (upF (upF (upF (upF (upF (upF (upF F 11 c88_F11) 12 c88_F12) 13 c88_F13) 14 c88_F14) 15 c88_F15) 16 c88_F16) 17 c88_F17) 18 c88_F18) 19 c88_F19) 20 c88_F20) 21 c88_F21)) → va_S A s.heap H locs → lv_has ls 2 [(0, .ref h0), (1, .int x88_1)] → W p l e ({ frames := 9, cells := 0, slots := 0, locals := 413 } : Room) s m args below meth c H locs 0 0 Q (F0 m 88 ls []) := by
      intro x88_1 c88_g3 c88_g4 c88_g5 c88_g6 c88_g7 c88_g8 c88_F11 c88_F12 c88_F13 c88_F14 c88_F15 c88_F16 c88_F17 c88_F18 c88_F19 c88_F20 c88_F21 H locs ls hr hP hD hS hl
      rw [hj88] at hr
      refine lv_iload_n hx hb dX12_readItem_88 rfl (lv_at hl 1 rfl) ?_
      refine lv_if_ne (tgt := 94) hx hb dX12_readItem_89 (by decide) (fun c89 => ?_) (fun c89 => ?_)
      · replace hr := iteF c89 hr
        refine lv_aload_n hx hb dX12_readItem_94 rfl (lv_at hl 0 rfl) ?_
        refine va_get (D := (dC, dI)) (ci := 12) (v := .int c88_g3) (C := RX12) (T := TX12) (N := 71) hx hb hts inX12 hown hK hP 0 rfl rfl 3 (by decide) (hts (.fieldLink RX12 180 "SpellTurnerModel" "sort" "I") im_65) (fun _ h9 => h9) rfl dX12_readItem_95 ?_
        refine lv_iconst (v := 3) hx hb dX12_readItem_98 (by decide +kernel) ?_
        refine lv_icmp_eq (tgt := 108) hx hb dX12_readItem_99 (by decide) (fun c99 => ?_) (fun c99 => ?_)
        · replace hr := iteT c99 hr
          refine lv_aload_n hx hb dX12_readItem_108 rfl (lv_at hl 0 rfl) ?_
          replace hr := b4S hr
          obtain ⟨c109_g3, c109_g4, c109_g5, c109_g6, hc109, hr⟩ := hr
          have hFc := fr_all hD hS hA
          refine va_callv (va_runV (As := []) (rest := []) ⟨hx, hb, hml, hown, hts⟩ (m_scan l dC dI adK adV H.size h0 kB kI kZ q (upd (upd (upd (upd (upd (upd g 3 c88_g3) 4 c88_g4) 5 c88_g5) 6 c88_g6) 7 c88_g7) 8 c88_g8) (upF (upF (upF (upF (upF (upF (upF (upF (upF (upF (upF F 11 c88_F11) 12 c88_F12) 13 c88_F13) 14 c88_F14) 15 c88_F15) 16 c88_F16) 17 c88_F17) 18 c88_F18) 19 c88_F19) 20 c88_F20) 21 c88_F21) c109_g3 c109_g4 c109_g5 c109_g6 hc109) (cwV 0 hts gw_X12_scan_200 rfl rfl rfl (by decide +kernel) ⟨Nat.le_of_ble_eq_true rfl, Nat.le_of_ble_eq_true rfl⟩) ⟨fun a U g mk q => by obtain ⟨q0, q1, qP, qK, qD, qS⟩ := q; exact ⟨q0, q1, qP, va_K.moved (u := U) (U := U.calling g mk a) (Vm.Alike.refl U.vm) qK, qD, qS.calling⟩, va_recv hK hP (ci := 12) (q0 := 0) rfl rfl, fun U hU hW => ⟨rfl, by rw [hU], by rw [hU]; exact hP, va_K.moved hW.alike hK, hD.weaken (fun _ _ _ _ => trivial), (hSE.warm hS hU hW).narrow hFc⟩⟩ rfl rfl hl.1 rfl (lv_room (Nat.le_of_ble_eq_true rfl)) dX12_readItem_109 ⟨Nat.le_of_ble_eq_true rfl, Nat.le_of_ble_eq_true rfl⟩) hS (fun q _ h => hFc q h) hFc (fun u t H1 locs ht hvm hw hB hz1 hk1 hS => ?_)
          obtain ⟨hP1, hK1, hD1⟩ := hB
          rw [ht] at hP1
          obtain ⟨hP, hD⟩ := jn_all (w1 := (mW h0 kB kI kZ q (upd (upd (upd (upd (upd (upd g 3 c109_g3) 4 c109_g4) 5 c109_g5) 6 c109_g6) 7 c88_g7) 8 c88_g8) (upF (upF (upF (upF (upF (upF (upF (upF (upF (upF (upF F 11 c88_F11) 12 c88_F12) 13 c88_F13) 14 c88_F14) 15 c88_F15) 16 c88_F16) 17 c88_F17) 18 c88_F18) 19 c88_F19) 20 c88_F20) 21 c88_F21))) hFc hP1 hD1
          clear hFc hP1 hK1 hD1 hk1 hz1 ht hvm
          generalize H1 = H at hP hS ⊢
          have hP : va_P (dC, dI) vwCl (mW h0 kB kI kZ q (upd (upd (upd (upd (upd (upd g 3 c109_g3) 4 c109_g4) 5 c109_g5) 6 c109_g6) 7 c88_g7) 8 c88_g8) (upF (upF (upF (upF (upF (upF (upF (upF (upF (upF (upF F 11 c88_F11) 12 c88_F12) 13 c88_F13) 14 c88_F14) 15 c88_F15) 16 c88_F16) 17 c88_F17) 18 c88_F18) 19 c88_F19) 20 c88_F20) 21 c88_F21)) H := hP
          have hD : va_D A (mW h0 kB kI kZ q (upd (upd (upd (upd (upd (upd g 3 c109_g3) 4 c109_g4) 5 c109_g5) 6 c109_g6) 7 c88_g7) 8 c88_g8) (upF (upF (upF (upF (upF (upF (upF (upF (upF (upF (upF F 11 c88_F11) 12 c88_F12) 13 c88_F13) 14 c88_F14) 15 c88_F15) 16 c88_F16) 17 c88_F17) 18 c88_F18) 19 c88_F19) 20 c88_F20) 21 c88_F21)) := hD
          refine lv_iconst (v := 1) hx hb dX12_readItem_112 (by decide +kernel) ?_
          first | exact K 113 ls _ _ _ _ _ _ _ _ _ _ _ _ _ _ _ _ _ _ H _ hr (by decide) dX12_readItem_113 (sP_eq (mW_cg (by repeat (first | with_reducible rfl | with_reducible refine upd_cg ?_ | refine Eq.trans ?_ (upd_id rfl))) (by repeat (first | with_reducible rfl | with_reducible refine upF_cg ?_ | refine Eq.trans ?_ (upF_id rfl)))) hP) (sD_eq (mW_cg (by repeat (first | with_reducible rfl | with_reducible refine upd_cg ?_ | refine Eq.trans ?_ (upd_id rfl))) (by repeat (first | with_reducible rfl | with_reducible refine upF_cg ?_ | refine Eq.trans ?_ (upF_id rfl)))) hD) hS | exact K 113 ls _ _ _ _ _ _ _ _ _ _ _ _ _ _ _ _ _ _ H _ hr (by decide) dX12_readItem_113 hP hD hS
        · replace hr := iteF c99 hr
          refine lv_aload_n hx hb dX12_readItem_102 rfl (lv_at hl 0 rfl) ?_
          refine lv_iconst (v := 1) hx hb dX12_readItem_103 (by decide +kernel) ?_
          replace hr := b3S hr
          obtain ⟨r104z, c104_g7, c104_g8, hc104, hr⟩ := hr
          have hFc := fr_all hD hS hA
          refine va_calli (va_runV (As := [.int 1]) (rest := []) ⟨hx, hb, hml, hown, hts⟩ (m_wrong l dC dI H.size h0 kB kI kZ q (upd (upd (upd (upd (upd (upd g 3 c88_g3) 4 c88_g4) 5 c88_g5) 6 c88_g6) 7 c88_g7) 8 c88_g8) (upF (upF (upF (upF (upF (upF (upF (upF (upF (upF (upF F 11 c88_F11) 12 c88_F12) 13 c88_F13) 14 c88_F14) 15 c88_F15) 16 c88_F16) 17 c88_F17) 18 c88_F18) 19 c88_F19) 20 c88_F20) 21 c88_F21) 1 r104z c104_g7 c104_g8 hc104) (cwV 1 hts gw_X12_wrong_197 rfl rfl rfl (by decide +kernel) ⟨Nat.le_of_ble_eq_true rfl, Nat.le_of_ble_eq_true rfl⟩) ⟨fun a U g mk q => by obtain ⟨q0, q1, qP, qK, qD⟩ := q; exact ⟨q0, q1, qP, va_K.moved (u := U) (U := U.calling g mk a) (Vm.Alike.refl U.vm) qK, qD⟩, va_recv hK hP (ci := 12) (q0 := 0) rfl rfl, fun U hU hW => ⟨rfl, by rw [hU], by rw [hU]; exact hP, va_K.moved hW.alike hK, hD.weaken (fun _ _ _ _ => trivial)⟩⟩ rfl rfl hl.1 rfl (lv_room (Nat.le_of_ble_eq_true rfl)) dX12_readItem_104 ⟨Nat.le_of_ble_eq_true rfl, Nat.le_of_ble_eq_true rfl⟩) hS (fun q _ h => hFc q h) hFc (fun r104 u t H1 locs ht hvm hw hB hz1 hk1 hS => ?_)
          replace hw : r104 = r104z := hw
          subst hw
          obtain ⟨hP1, hK1, hD1⟩ := hB
          rw [ht] at hP1
          obtain ⟨hP, hD⟩ := jn_all (w1 := (mW h0 kB kI kZ q (upd (upd (upd (upd (upd (upd g 3 c88_g3) 4 c88_g4) 5 c88_g5) 6 c88_g6) 7 c104_g7) 8 c104_g8) (upF (upF (upF (upF (upF (upF (upF (upF (upF (upF (upF F 11 c88_F11) 12 c88_F12) 13 c88_F13) 14 c88_F14) 15 c88_F15) 16 c88_F16) 17 c88_F17) 18 c88_F18) 19 c88_F19) 20 c88_F20) 21 c88_F21))) hFc hP1 hD1
          clear hFc hP1 hK1 hD1 hk1 hz1 ht hvm
          generalize H1 = H at hP hS ⊢
          have hP : va_P (dC, dI) vwCl (mW h0 kB kI kZ q (upd (upd (upd (upd (upd (upd g 3 c88_g3) 4 c88_g4) 5 c88_g5) 6 c88_g6) 7 c104_g7) 8 c104_g8) (upF (upF (upF (upF (upF (upF (upF (upF (upF (upF (upF F 11 c88_F11) 12 c88_F12) 13 c88_F13) 14 c88_F14) 15 c88_F15) 16 c88_F16) 17 c88_F17) 18 c88_F18) 19 c88_F19) 20 c88_F20) 21 c88_F21)) H := hP
          have hD : va_D A (mW h0 kB kI kZ q (upd (upd (upd (upd (upd (upd g 3 c88_g3) 4 c88_g4) 5 c88_g5) 6 c88_g6) 7 c104_g7) 8 c104_g8) (upF (upF (upF (upF (upF (upF (upF (upF (upF (upF (upF F 11 c88_F11) 12 c88_F12) 13 c88_F13) 14 c88_F14) 15 c88_F15) 16 c88_F16) 17 c88_F17) 18 c88_F18) 19 c88_F19) 20 c88_F20) 21 c88_F21)) := hD
          replace hr := iteS hr
          obtain ⟨hz107, hr⟩ := hr
          first | exact K 107 ls _ _ _ _ _ _ _ _ _ _ _ _ _ _ _ _ _ _ H _ hr hz107 dX12_readItem_107 (sP_eq (mW_cg (by repeat (first | with_reducible rfl | with_reducible refine upd_cg ?_ | refine Eq.trans ?_ (upd_id rfl))) (by repeat (first | with_reducible rfl | with_reducible refine upF_cg ?_ | refine Eq.trans ?_ (upF_id rfl)))) hP) (sD_eq (mW_cg (by repeat (first | with_reducible rfl | with_reducible refine upd_cg ?_ | refine Eq.trans ?_ (upd_id rfl))) (by repeat (first | with_reducible rfl | with_reducible refine upF_cg ?_ | refine Eq.trans ?_ (upF_id rfl)))) hD) hS | exact K 107 ls _ _ _ _ _ _ _ _ _ _ _ _ _ _ _ _ _ _ H _ hr hz107 dX12_readItem_107 hP hD hS
      · replace hr := iteT c89 hr
        refine lv_iconst (v := 0) hx hb dX12_readItem_92 (by decide +kernel) ?_
        first | exact K 93 ls _ _ _ _ _ _ _ _ _ _ _ _ _ _ _ _ _ _ H _ hr (by decide) dX12_readItem_93 (sP_eq (mW_cg (by repeat (first | with_reducible rfl | with_reducible refine upd_cg ?_ | refine Eq.trans ?_ (upd_id rfl))) (by repeat (first | with_reducible rfl | with_reducible refine upF_cg ?_ | refine Eq.trans ?_ (upF_id rfl)))) hP) (sD_eq (mW_cg (by repeat (first | with_reducible rfl | with_reducible refine upd_cg ?_ | refine Eq.trans ?_ (upd_id rfl))) (by repeat (first | with_reducible rfl | with_reducible refine upF_cg ?_ | refine Eq.trans ?_ (upF_id rfl)))) hD) hS | exact K 93 ls _ _ _ _ _ _ _ _ _ _ _ _ _ _ _ _ _ _ H _ hr (by decide) dX12_readItem_93 hP hD hS
    replace hr := jnS hr
    obtain ⟨j29, hj29, hr⟩ := hr
    have Jj29 : ∀ (H : Heap) (locs : List Loc) (ls : Array Slot), j29 () = some (r, c_g3, c_g4, c_g5, c_g6, c_g7, c_g8, c_F11, c_F12, c_F13, c_F14, c_F15, c_F16, c_F17, c_F18, c_F19, c_F20, c_F21) → va_P (dC, dI) vwCl (mW h0 kB kI kZ q g F) H → va_D A (mW h0 kB kI kZ q g F) → va_S A s.heap H locs → lv_has ls 2 [(0, .ref h0)] → W p l e ({ frames := 9, cells := 0, slots := 0, locals := 413 } : Room) s m args below meth c H locs 0 0 Q (F0 m 29 ls []) := by
      intro H locs ls hr hP hD hS hl
      rw [hj29] at hr
      refine lv_aload_n hx hb dX12_readItem_29 rfl (lv_at hl 0 rfl) ?_
      refine lv_aload_n hx hb dX12_readItem_30 rfl (lv_at hl 0 rfl) ?_
      refine va_get (D := (dC, dI)) (ci := 12) (v := .int (g 4)) (C := RX12) (T := TX12) (N := 71) hx hb hts inX12 hown hK hP 0 rfl rfl 4 (by decide) (hts (.fieldLink RX12 191 "SpellTurnerModel" "what" "I") im_252) (fun _ h9 => h9) rfl dX12_readItem_31 ?_
      refine lv_iconst (v := 1) hx hb dX12_readItem_34 (by decide +kernel) ?_
      replace hr := jnS hr
      obtain ⟨j43, hj43, hr⟩ := hr
      have Jj43 : ∀ (t43_0 : Int32) (H : Heap) (locs : List Loc) (ls : Array Slot), j43 t43_0 = some (r, c_g3, c_g4, c_g5, c_g6, c_g7, c_g8, c_F11, c_F12, c_F13, c_F14, c_F15, c_F16, c_F17, c_F18, c_F19, c_F20, c_F21) → va_P (dC, dI) vwCl (mW h0 kB kI kZ q g F) H → va_D A (mW h0 kB kI kZ q g F) → va_S A s.heap H locs → lv_has ls 2 [(0, .ref h0)] → W p l e ({ frames := 9, cells := 0, slots := 0, locals := 413 } : Room) s m args below meth c H locs 0 0 Q (F0 m 43 ls [.int t43_0, .ref h0]) := by
        intro t43_0 H locs ls hr hP hD hS hl
        rw [hj43] at hr
        replace hr := b10S hr
        obtain ⟨r43z, c43_g3, c43_g4, c43_g5, c43_g6, c43_g7, c43_g8, c43_F13, c43_F20, c43_F21, hc43, hr⟩ := hr
        have hFc := fr_all hD hS hA
        refine va_calli (va_runV (As := [.int t43_0]) (rest := []) ⟨hx, hb, hml, hown, hts⟩ (m_readListed l dC dI adK adV H.size h0 kB kI kZ q g F t43_0 r43z c43_g3 c43_g4 c43_g5 c43_g6 c43_g7 c43_g8 c43_F13 c43_F20 c43_F21 hc43) (cwV 1 hts gw_X12_readListed_211 rfl rfl rfl (by decide +kernel) ⟨Nat.le_of_ble_eq_true rfl, Nat.le_of_ble_eq_true rfl⟩) ⟨fun a U g mk q => by obtain ⟨q0, q1, qP, qK, qD, qS⟩ := q; exact ⟨q0, q1, qP, va_K.moved (u := U) (U := U.calling g mk a) (Vm.Alike.refl U.vm) qK, qD, qS.calling⟩, va_recv hK hP (ci := 12) (q0 := 0) rfl rfl, fun U hU hW => ⟨rfl, by rw [hU], by rw [hU]; exact hP, va_K.moved hW.alike hK, hD.weaken (fun _ _ _ _ => trivial), (hSE.warm hS hU hW).narrow hFc⟩⟩ rfl rfl hl.1 rfl (lv_room (Nat.le_of_ble_eq_true rfl)) dX12_readItem_43 ⟨Nat.le_of_ble_eq_true rfl, Nat.le_of_ble_eq_true rfl⟩) hS (fun q _ h => hFc q h) hFc (fun r43 u t H1 locs ht hvm hw hB hz1 hk1 hS => ?_)
        replace hw : r43 = r43z := hw
        subst hw
        obtain ⟨hP1, hK1, hD1⟩ := hB
        rw [ht] at hP1
        obtain ⟨hP, hD⟩ := jn_all (w1 := (mW h0 kB kI kZ q (upd (upd (upd (upd (upd (upd g 3 c43_g3) 4 c43_g4) 5 c43_g5) 6 c43_g6) 7 c43_g7) 8 c43_g8) (upF (upF (upF F 13 c43_F13) 20 c43_F20) 21 c43_F21))) hFc hP1 hD1
        clear hFc hP1 hK1 hD1 hk1 hz1 ht hvm
        generalize H1 = H at hP hS ⊢
        have hP : va_P (dC, dI) vwCl (mW h0 kB kI kZ q (upd (upd (upd (upd (upd (upd g 3 c43_g3) 4 c43_g4) 5 c43_g5) 6 c43_g6) 7 c43_g7) 8 c43_g8) (upF (upF (upF F 13 c43_F13) 20 c43_F20) 21 c43_F21)) H := hP
        have hD : va_D A (mW h0 kB kI kZ q (upd (upd (upd (upd (upd (upd g 3 c43_g3) 4 c43_g4) 5 c43_g5) 6 c43_g6) 7 c43_g7) 8 c43_g8) (upF (upF (upF F 13 c43_F13) 20 c43_F20) 21 c43_F21)) := hD
        refine lv_istore_n (lv' := [(1, .int r43), (0, .ref h0)]) hx hb dX12_readItem_46 rfl hl (by decide) rfl (fun ls hl => ?_)
        refine lv_goto (tgt := 88) hx hb dX12_readItem_47 (by decide) ?_
        first | exact Jj88 r43 c43_g3 c43_g4 c43_g5 c43_g6 c43_g7 c43_g8 (F 11) (F 12) c43_F13 (F 14) (F 15) (F 16) (F 17) (F 18) (F 19) c43_F20 c43_F21 H _ ls hr (sP_eq (mW_cg (by repeat (first | with_reducible rfl | with_reducible refine upd_cg ?_ | refine Eq.trans ?_ (upd_id rfl))) (by repeat (first | with_reducible rfl | with_reducible refine upF_cg ?_ | refine Eq.trans ?_ (upF_id rfl)))) hP) (sD_eq (mW_cg (by repeat (first | with_reducible rfl | with_reducible refine upd_cg ?_ | refine Eq.trans ?_ (upd_id rfl))) (by repeat (first | with_reducible rfl | with_reducible refine upF_cg ?_ | refine Eq.trans ?_ (upF_id rfl)))) hD) hS (lv_sub hl [1, 0] rfl) | exact Jj88 r43 c43_g3 c43_g4 c43_g5 c43_g6 c43_g7 c43_g8 (F 11) (F 12) c43_F13 (F 14) (F 15) (F 16) (F 17) (F 18) (F 19) c43_F20 c43_F21 H _ ls hr hP hD hS (lv_sub hl [1, 0] rfl)
      refine lv_icmp_ne (tgt := 42) hx hb dX12_readItem_35 (by decide) (fun c35 => ?_) (fun c35 => ?_)
      · replace hr := iteF c35 hr
        refine lv_iconst (v := 0) hx hb dX12_readItem_42 (by decide +kernel) ?_
        exact Jj43 0 H _ ls hr hP hD hS (lv_sub hl [0] rfl)
      · replace hr := iteT c35 hr
        refine lv_iconst (v := 1) hx hb dX12_readItem_38 (by decide +kernel) ?_
        refine lv_goto (tgt := 43) hx hb dX12_readItem_39 (by decide) ?_
        exact Jj43 1 H _ ls hr hP hD hS (lv_sub hl [0] rfl)
    refine lv_if_eq (tgt := 29) hx hb dX12_readItem_18 (by decide) (fun c18 => ?_) (fun c18 => ?_)
    · replace hr := iteT c18 hr
      exact Jj29 H _ ls hr hP hD hS (lv_sub hl [0] rfl)
    · replace hr := iteF c18 hr
      refine lv_aload_n hx hb dX12_readItem_21 rfl (lv_at hl 0 rfl) ?_
      refine va_get (D := (dC, dI)) (ci := 12) (v := .int (g 4)) (C := RX12) (T := TX12) (N := 71) hx hb hts inX12 hown hK hP 0 rfl rfl 4 (by decide) (hts (.fieldLink RX12 191 "SpellTurnerModel" "what" "I") im_252) (fun _ h9 => h9) rfl dX12_readItem_22 ?_
      refine lv_iconst (v := 1) hx hb dX12_readItem_25 (by decide +kernel) ?_
      refine lv_icmp_ne (tgt := 50) hx hb dX12_readItem_26 (by decide) (fun c26 => ?_) (fun c26 => ?_)
      · replace hr := iteF c26 hr
        refine lv_aload_n hx hb dX12_readItem_50 rfl (lv_at hl 0 rfl) ?_
        refine va_get (D := (dC, dI)) (ci := 12) (v := .int (g 4)) (C := RX12) (T := TX12) (N := 71) hx hb hts inX12 hown hK hP 0 rfl rfl 4 (by decide) (hts (.fieldLink RX12 191 "SpellTurnerModel" "what" "I") im_252) (fun _ h9 => h9) rfl dX12_readItem_51 ?_
        refine lv_iconst (v := 3) hx hb dX12_readItem_54 (by decide +kernel) ?_
        refine lv_icmp_ne (tgt := 66) hx hb dX12_readItem_55 (by decide) (fun c55 => ?_) (fun c55 => ?_)
        · replace hr := iteF c55 hr
          refine lv_aload_n hx hb dX12_readItem_66 rfl (lv_at hl 0 rfl) ?_
          refine va_get (D := (dC, dI)) (ci := 12) (v := .int (g 4)) (C := RX12) (T := TX12) (N := 71) hx hb hts inX12 hown hK hP 0 rfl rfl 4 (by decide) (hts (.fieldLink RX12 191 "SpellTurnerModel" "what" "I") im_252) (fun _ h9 => h9) rfl dX12_readItem_67 ?_
          refine lv_iconst (v := 4) hx hb dX12_readItem_70 (by decide +kernel) ?_
          refine lv_icmp_ne (tgt := 82) hx hb dX12_readItem_71 (by decide) (fun c71 => ?_) (fun c71 => ?_)
          · replace hr := iteF c71 hr
            refine lv_aload_n hx hb dX12_readItem_82 rfl (lv_at hl 0 rfl) ?_
            refine lv_iconst (v := 1) hx hb dX12_readItem_83 (by decide +kernel) ?_
            replace hr := b3S hr
            obtain ⟨r84z, c84_g7, c84_g8, hc84, hr⟩ := hr
            have hFc := fr_all hD hS hA
            refine va_calli (va_runV (As := [.int 1]) (rest := []) ⟨hx, hb, hml, hown, hts⟩ (m_wrong l dC dI H.size h0 kB kI kZ q g F 1 r84z c84_g7 c84_g8 hc84) (cwV 1 hts gw_X12_wrong_197 rfl rfl rfl (by decide +kernel) ⟨Nat.le_of_ble_eq_true rfl, Nat.le_of_ble_eq_true rfl⟩) ⟨fun a U g mk q => by obtain ⟨q0, q1, qP, qK, qD⟩ := q; exact ⟨q0, q1, qP, va_K.moved (u := U) (U := U.calling g mk a) (Vm.Alike.refl U.vm) qK, qD⟩, va_recv hK hP (ci := 12) (q0 := 0) rfl rfl, fun U hU hW => ⟨rfl, by rw [hU], by rw [hU]; exact hP, va_K.moved hW.alike hK, hD.weaken (fun _ _ _ _ => trivial)⟩⟩ rfl rfl hl.1 rfl (lv_room (Nat.le_of_ble_eq_true rfl)) dX12_readItem_84 ⟨Nat.le_of_ble_eq_true rfl, Nat.le_of_ble_eq_true rfl⟩) hS (fun q _ h => hFc q h) hFc (fun r84 u t H1 locs ht hvm hw hB hz1 hk1 hS => ?_)
            replace hw : r84 = r84z := hw
            subst hw
            obtain ⟨hP1, hK1, hD1⟩ := hB
            rw [ht] at hP1
            obtain ⟨hP, hD⟩ := jn_all (w1 := (mW h0 kB kI kZ q (upd (upd g 7 c84_g7) 8 c84_g8) F)) hFc hP1 hD1
            clear hFc hP1 hK1 hD1 hk1 hz1 ht hvm
            generalize H1 = H at hP hS ⊢
            have hP : va_P (dC, dI) vwCl (mW h0 kB kI kZ q (upd (upd g 7 c84_g7) 8 c84_g8) F) H := hP
            have hD : va_D A (mW h0 kB kI kZ q (upd (upd g 7 c84_g7) 8 c84_g8) F) := hD
            replace hr := iteS hr
            obtain ⟨hz87, hr⟩ := hr
            first | exact K 87 ls _ _ _ _ _ _ _ _ _ _ _ _ _ _ _ _ _ _ H _ hr hz87 dX12_readItem_87 (sP_eq (mW_cg (by repeat (first | with_reducible rfl | with_reducible refine upd_cg ?_ | refine Eq.trans ?_ (upd_id rfl))) (by repeat (first | with_reducible rfl | with_reducible refine upF_cg ?_ | refine Eq.trans ?_ (upF_id rfl)))) hP) (sD_eq (mW_cg (by repeat (first | with_reducible rfl | with_reducible refine upd_cg ?_ | refine Eq.trans ?_ (upd_id rfl))) (by repeat (first | with_reducible rfl | with_reducible refine upF_cg ?_ | refine Eq.trans ?_ (upF_id rfl)))) hD) hS | exact K 87 ls _ _ _ _ _ _ _ _ _ _ _ _ _ _ _ _ _ _ H _ hr hz87 dX12_readItem_87 hP hD hS
          · replace hr := iteT c71 hr
            refine lv_aload_n hx hb dX12_readItem_74 rfl (lv_at hl 0 rfl) ?_
            replace hr := b12S hr
            obtain ⟨r75z, c75_g3, c75_g4, c75_g5, c75_g6, c75_g7, c75_g8, c75_F11, c75_F14, c75_F15, c75_F16, c75_F17, hc75, hr⟩ := hr
            have hFc := fr_all hD hS hA
            refine va_calli (va_runV (As := []) (rest := []) ⟨hx, hb, hml, hown, hts⟩ (m_readLaw l dC dI adK adV H.size h0 kB kI kZ q g F r75z c75_g3 c75_g4 c75_g5 c75_g6 c75_g7 c75_g8 c75_F11 c75_F14 c75_F15 c75_F16 c75_F17 hc75) (cwV 0 hts gw_X12_readLaw_219 rfl rfl rfl (by decide +kernel) ⟨Nat.le_of_ble_eq_true rfl, Nat.le_of_ble_eq_true rfl⟩) ⟨fun a U g mk q => by obtain ⟨q0, q1, qP, qK, qD, qS⟩ := q; exact ⟨q0, q1, qP, va_K.moved (u := U) (U := U.calling g mk a) (Vm.Alike.refl U.vm) qK, qD, qS.calling⟩, va_recv hK hP (ci := 12) (q0 := 0) rfl rfl, fun U hU hW => ⟨rfl, by rw [hU], by rw [hU]; exact hP, va_K.moved hW.alike hK, hD.weaken (fun _ _ _ _ => trivial), (hSE.warm hS hU hW).narrow hFc⟩⟩ rfl rfl hl.1 rfl (lv_room (Nat.le_of_ble_eq_true rfl)) dX12_readItem_75 ⟨Nat.le_of_ble_eq_true rfl, Nat.le_of_ble_eq_true rfl⟩) hS (fun q _ h => hFc q h) hFc (fun r75 u t H1 locs ht hvm hw hB hz1 hk1 hS => ?_)
            replace hw : r75 = r75z := hw
            subst hw
            obtain ⟨hP1, hK1, hD1⟩ := hB
            rw [ht] at hP1
            obtain ⟨hP, hD⟩ := jn_all (w1 := (mW h0 kB kI kZ q (upd (upd (upd (upd (upd (upd g 3 c75_g3) 4 c75_g4) 5 c75_g5) 6 c75_g6) 7 c75_g7) 8 c75_g8) (upF (upF (upF (upF (upF F 11 c75_F11) 14 c75_F14) 15 c75_F15) 16 c75_F16) 17 c75_F17))) hFc hP1 hD1
            clear hFc hP1 hK1 hD1 hk1 hz1 ht hvm
            generalize H1 = H at hP hS ⊢
            have hP : va_P (dC, dI) vwCl (mW h0 kB kI kZ q (upd (upd (upd (upd (upd (upd g 3 c75_g3) 4 c75_g4) 5 c75_g5) 6 c75_g6) 7 c75_g7) 8 c75_g8) (upF (upF (upF (upF (upF F 11 c75_F11) 14 c75_F14) 15 c75_F15) 16 c75_F16) 17 c75_F17)) H := hP
            have hD : va_D A (mW h0 kB kI kZ q (upd (upd (upd (upd (upd (upd g 3 c75_g3) 4 c75_g4) 5 c75_g5) 6 c75_g6) 7 c75_g7) 8 c75_g8) (upF (upF (upF (upF (upF F 11 c75_F11) 14 c75_F14) 15 c75_F15) 16 c75_F16) 17 c75_F17)) := hD
            refine lv_istore_n (lv' := [(1, .int r75), (0, .ref h0)]) hx hb dX12_readItem_78 rfl hl (by decide) rfl (fun ls hl => ?_)
            refine lv_goto (tgt := 88) hx hb dX12_readItem_79 (by decide) ?_
            first | exact Jj88 r75 c75_g3 c75_g4 c75_g5 c75_g6 c75_g7 c75_g8 c75_F11 (F 12) (F 13) c75_F14 c75_F15 c75_F16 c75_F17 (F 18) (F 19) (F 20) (F 21) H _ ls hr (sP_eq (mW_cg (by repeat (first | with_reducible rfl | with_reducible refine upd_cg ?_ | refine Eq.trans ?_ (upd_id rfl))) (by repeat (first | with_reducible rfl | with_reducible refine upF_cg ?_ | refine Eq.trans ?_ (upF_id rfl)))) hP) (sD_eq (mW_cg (by repeat (first | with_reducible rfl | with_reducible refine upd_cg ?_ | refine Eq.trans ?_ (upd_id rfl))) (by repeat (first | with_reducible rfl | with_reducible refine upF_cg ?_ | refine Eq.trans ?_ (upF_id rfl)))) hD) hS (lv_sub hl [1, 0] rfl) | exact Jj88 r75 c75_g3 c75_g4 c75_g5 c75_g6 c75_g7 c75_g8 c75_F11 (F 12) (F 13) c75_F14 c75_F15 c75_F16 c75_F17 (F 18) (F 19) (F 20) (F 21) H _ ls hr hP hD hS (lv_sub hl [1, 0] rfl)
        · replace hr := iteT c55 hr
          refine lv_aload_n hx hb dX12_readItem_58 rfl (lv_at hl 0 rfl) ?_
          replace hr := b10S hr
          obtain ⟨r59z, c59_g3, c59_g4, c59_g5, c59_g6, c59_g7, c59_g8, c59_F12, c59_F18, c59_F19, hc59, hr⟩ := hr
          have hFc := fr_all hD hS hA
          refine va_calli (va_runV (As := []) (rest := []) ⟨hx, hb, hml, hown, hts⟩ (m_readPart l dC dI adK adV H.size h0 kB kI kZ q g F r59z c59_g3 c59_g4 c59_g5 c59_g6 c59_g7 c59_g8 c59_F12 c59_F18 c59_F19 hc59) (cwV 0 hts gw_X12_readPart_215 rfl rfl rfl (by decide +kernel) ⟨Nat.le_of_ble_eq_true rfl, Nat.le_of_ble_eq_true rfl⟩) ⟨fun a U g mk q => by obtain ⟨q0, q1, qP, qK, qD, qS⟩ := q; exact ⟨q0, q1, qP, va_K.moved (u := U) (U := U.calling g mk a) (Vm.Alike.refl U.vm) qK, qD, qS.calling⟩, va_recv hK hP (ci := 12) (q0 := 0) rfl rfl, fun U hU hW => ⟨rfl, by rw [hU], by rw [hU]; exact hP, va_K.moved hW.alike hK, hD.weaken (fun _ _ _ _ => trivial), (hSE.warm hS hU hW).narrow hFc⟩⟩ rfl rfl hl.1 rfl (lv_room (Nat.le_of_ble_eq_true rfl)) dX12_readItem_59 ⟨Nat.le_of_ble_eq_true rfl, Nat.le_of_ble_eq_true rfl⟩) hS (fun q _ h => hFc q h) hFc (fun r59 u t H1 locs ht hvm hw hB hz1 hk1 hS => ?_)
          replace hw : r59 = r59z := hw
          subst hw
          obtain ⟨hP1, hK1, hD1⟩ := hB
          rw [ht] at hP1
          obtain ⟨hP, hD⟩ := jn_all (w1 := (mW h0 kB kI kZ q (upd (upd (upd (upd (upd (upd g 3 c59_g3) 4 c59_g4) 5 c59_g5) 6 c59_g6) 7 c59_g7) 8 c59_g8) (upF (upF (upF F 12 c59_F12) 18 c59_F18) 19 c59_F19))) hFc hP1 hD1
          clear hFc hP1 hK1 hD1 hk1 hz1 ht hvm
          generalize H1 = H at hP hS ⊢
          have hP : va_P (dC, dI) vwCl (mW h0 kB kI kZ q (upd (upd (upd (upd (upd (upd g 3 c59_g3) 4 c59_g4) 5 c59_g5) 6 c59_g6) 7 c59_g7) 8 c59_g8) (upF (upF (upF F 12 c59_F12) 18 c59_F18) 19 c59_F19)) H := hP
          have hD : va_D A (mW h0 kB kI kZ q (upd (upd (upd (upd (upd (upd g 3 c59_g3) 4 c59_g4) 5 c59_g5) 6 c59_g6) 7 c59_g7) 8 c59_g8) (upF (upF (upF F 12 c59_F12) 18 c59_F18) 19 c59_F19)) := hD
          refine lv_istore_n (lv' := [(1, .int r59), (0, .ref h0)]) hx hb dX12_readItem_62 rfl hl (by decide) rfl (fun ls hl => ?_)
          refine lv_goto (tgt := 88) hx hb dX12_readItem_63 (by decide) ?_
          first | exact Jj88 r59 c59_g3 c59_g4 c59_g5 c59_g6 c59_g7 c59_g8 (F 11) c59_F12 (F 13) (F 14) (F 15) (F 16) (F 17) c59_F18 c59_F19 (F 20) (F 21) H _ ls hr (sP_eq (mW_cg (by repeat (first | with_reducible rfl | with_reducible refine upd_cg ?_ | refine Eq.trans ?_ (upd_id rfl))) (by repeat (first | with_reducible rfl | with_reducible refine upF_cg ?_ | refine Eq.trans ?_ (upF_id rfl)))) hP) (sD_eq (mW_cg (by repeat (first | with_reducible rfl | with_reducible refine upd_cg ?_ | refine Eq.trans ?_ (upd_id rfl))) (by repeat (first | with_reducible rfl | with_reducible refine upF_cg ?_ | refine Eq.trans ?_ (upF_id rfl)))) hD) hS (lv_sub hl [1, 0] rfl) | exact Jj88 r59 c59_g3 c59_g4 c59_g5 c59_g6 c59_g7 c59_g8 (F 11) c59_F12 (F 13) (F 14) (F 15) (F 16) (F 17) c59_F18 c59_F19 (F 20) (F 21) H _ ls hr hP hD hS (lv_sub hl [1, 0] rfl)
      · replace hr := iteT c26 hr
        exact Jj29 H _ ls hr hP hD hS (lv_sub hl [0] rfl)
  · replace hr := iteF c5 hr
    refine lv_aload_n hx hb dX12_readItem_8 rfl (lv_at hl 0 rfl) ?_
    refine lv_iconst (v := 1) hx hb dX12_readItem_9 (by decide +kernel) ?_
    replace hr := b3S hr
    obtain ⟨r10z, c10_g7, c10_g8, hc10, hr⟩ := hr
    have hFc := fr_all hD hS hA
    refine va_calli (va_runV (As := [.int 1]) (rest := []) ⟨hx, hb, hml, hown, hts⟩ (m_wrong l dC dI H.size h0 kB kI kZ q g F 1 r10z c10_g7 c10_g8 hc10) (cwV 1 hts gw_X12_wrong_197 rfl rfl rfl (by decide +kernel) ⟨Nat.le_of_ble_eq_true rfl, Nat.le_of_ble_eq_true rfl⟩) ⟨fun a U g mk q => by obtain ⟨q0, q1, qP, qK, qD⟩ := q; exact ⟨q0, q1, qP, va_K.moved (u := U) (U := U.calling g mk a) (Vm.Alike.refl U.vm) qK, qD⟩, va_recv hK hP (ci := 12) (q0 := 0) rfl rfl, fun U hU hW => ⟨rfl, by rw [hU], by rw [hU]; exact hP, va_K.moved hW.alike hK, hD.weaken (fun _ _ _ _ => trivial)⟩⟩ rfl rfl hl.1 rfl (lv_room (Nat.le_of_ble_eq_true rfl)) dX12_readItem_10 ⟨Nat.le_of_ble_eq_true rfl, Nat.le_of_ble_eq_true rfl⟩) hS (fun q _ h => hFc q h) hFc (fun r10 u t H1 locs ht hvm hw hB hz1 hk1 hS => ?_)
    replace hw : r10 = r10z := hw
    subst hw
    obtain ⟨hP1, hK1, hD1⟩ := hB
    rw [ht] at hP1
    obtain ⟨hP, hD⟩ := jn_all (w1 := (mW h0 kB kI kZ q (upd (upd g 7 c10_g7) 8 c10_g8) F)) hFc hP1 hD1
    clear hFc hP1 hK1 hD1 hk1 hz1 ht hvm
    generalize H1 = H at hP hS ⊢
    have hP : va_P (dC, dI) vwCl (mW h0 kB kI kZ q (upd (upd g 7 c10_g7) 8 c10_g8) F) H := hP
    have hD : va_D A (mW h0 kB kI kZ q (upd (upd g 7 c10_g7) 8 c10_g8) F) := hD
    replace hr := iteS hr
    obtain ⟨hz13, hr⟩ := hr
    first | exact K 13 ls _ _ _ _ _ _ _ _ _ _ _ _ _ _ _ _ _ _ H _ hr hz13 dX12_readItem_13 (sP_eq (mW_cg (by repeat (first | with_reducible rfl | with_reducible refine upd_cg ?_ | refine Eq.trans ?_ (upd_id rfl))) (by repeat (first | with_reducible rfl | with_reducible refine upF_cg ?_ | refine Eq.trans ?_ (upF_id rfl)))) hP) (sD_eq (mW_cg (by repeat (first | with_reducible rfl | with_reducible refine upd_cg ?_ | refine Eq.trans ?_ (upd_id rfl))) (by repeat (first | with_reducible rfl | with_reducible refine upF_cg ?_ | refine Eq.trans ?_ (upF_id rfl)))) hD) hS | exact K 13 ls _ _ _ _ _ _ _ _ _ _ _ _ _ _ _ _ _ _ H _ hr hz13 dX12_readItem_13 hP hD hS
set_option maxHeartbeats 4000000 in
set_option maxRecDepth 100000 in
theorem m_readItem (l : Launch) (dC : Nat → ClassId) (dI : Nat → Nat → Nat) (adK adV : Nat → Nat) (sz : Nat) (h0 : Nat) (kB kI kZ : ClassId) (q : Nat → Nat) (g : Nat → Int32) (F : Nat → Nat → Int32) (r : Int32) (c_g3 : Int32) (c_g4 : Int32) (c_g5 : Int32) (c_g6 : Int32) (c_g7 : Int32) (c_g8 : Int32) (c_F11 : (Nat → Int32)) (c_F12 : (Nat → Int32)) (c_F13 : (Nat → Int32)) (c_F14 : (Nat → Int32)) (c_F15 : (Nat → Int32)) (c_F16 : (Nat → Int32)) (c_F17 : (Nat → Int32)) (c_F18 : (Nat → Int32)) (c_F19 : (Nat → Int32)) (c_F20 : (Nat → Int32)) (c_F21 : (Nat → Int32)) (hr : f_readItem g F = some (r, c_g3, c_g4, c_g5, c_g6, c_g7, c_g8, c_F11, c_F12, c_F13, c_F14, c_F15, c_F16, c_F17, c_F18, c_F19, c_F20, c_F21)) : Met l yX12_readItem vmX12_readItem ({ frames := 9, cells := 0, slots := 0, locals := 413 } : Room) (va_Pc [.ref h0] (fun U => U.heap.size = sz ∧ va_P (dC, dI) vwCl (mW h0 kB kI kZ q g F) U.heap ∧ va_K (dC, dI) vwCl (mT kB kI kZ) U ∧ va_D (fun _ => True) (mW h0 kB kI kZ q g F) ∧ SE adK adV (va_A (mW h0 kB kI kZ q g F) sz) U)) (va_Qi (fun (rz : Int32) (_ : Unit) => rz = r) (fun _ t => va_P (dC, dI) vwCl (mW h0 kB kI kZ q (upd (upd (upd (upd (upd (upd g 3 c_g3) 4 c_g4) 5 c_g5) 6 c_g6) 7 c_g7) 8 c_g8) (upF (upF (upF (upF (upF (upF (upF (upF (upF (upF (upF F 11 c_F11) 12 c_F12) 13 c_F13) 14 c_F14) 15 c_F15) 16 c_F16) 17 c_F17) 18 c_F18) 19 c_F19) 20 c_F20) 21 c_F21)) t.heap ∧ va_K (dC, dI) vwCl (mT kB kI kZ) t ∧ va_D (va_A (mW h0 kB kI kZ q g F) sz) (mW h0 kB kI kZ q (upd (upd (upd (upd (upd (upd g 3 c_g3) 4 c_g4) 5 c_g5) 6 c_g6) 7 c_g7) 8 c_g8) (upF (upF (upF (upF (upF (upF (upF (upF (upF (upF (upF F 11 c_F11) 12 c_F12) 13 c_F13) 14 c_F14) 15 c_F15) 16 c_F16) 17 c_F17) 18 c_F18) 19 c_F19) 20 c_F20) 21 c_F21))) (va_A (mW h0 kB kI kZ q g F) sz)) 0 0 (va_A (mW h0 kB kI kZ q g F) sz) := by
  refine Met.ofW (cc := cX12_readItem) (maxL := 2) (ret := (some .boolean)) (by decide) rfl ?_
  intro p e s m args below meth c s₁ B hml hv
  obtain ⟨rfl, hsz, hP, hK, hD0, hSE⟩ := hv
  have hx := B.exec
  have hb := B.bytes
  have hrt := B.returns
  have hts := atoms_spec (ws := vmX12_readItem) B.pre
  have hown : s.vm.findClass RX12 = some m.cls := findClass_of_methodNamed B.named
  subst hsz
  have hD := hD0.self (sz := s.heap.size)
  generalize hAe : va_A (mW h0 kB kI kZ q g F) s.heap.size = A at hD hSE ⊢
  have hA : ∀ q : Nat, s.heap.size ≤ q → A q := fun q h => by rw [← hAe]; exact Or.inr h
  have hS : va_S A s.heap s.heap [] := va_S.rf
  have hl := lv_entry ([.ref h0]) (n := 2) (Nat.le_of_ble_eq_true rfl)
  rw [lg_entry_eq]
  generalize (lg_sl ([.ref h0]) ++ List.replicate (2 - (lg_sl ([.ref h0])).length) Slot.unset).toArray = ls at hl ⊢
  exact bm_readItem r c_g3 c_g4 c_g5 c_g6 c_g7 c_g8 c_F11 c_F12 c_F13 c_F14 c_F15 c_F16 c_F17 c_F18 c_F19 c_F20 c_F21 hr hx hb hml hown hts hA hK hSE hP hD hS hl (fun pc ls rz c_g3z c_g4z c_g5z c_g6z c_g7z c_g8z c_F11z c_F12z c_F13z c_F14z c_F15z c_F16z c_F17z c_F18z c_F19z c_F20z c_F21z H locs he hz hd hP hD hS => by cases he; exact W.zret (v := r) hx hb hrt (z_nb hz) (fun t ht hW => ⟨⟨r, (), rfl, rfl, by rw [ht]; exact hP, va_K.moved hW.alike hK, hD⟩, hS.F ht⟩) hS.2.2 hd)
set_option maxHeartbeats 4000000 in
set_option maxRecDepth 100000 in
theorem bm_reform {p : Program} {l : Launch} {e : Env} {s : State} {m : MethodId} {args : Array Value} {below : List Frame} {meth : Method} {c : Code} {Q : State → Prop} {A : Nat → Prop} {dC : Nat → ClassId} {dI : Nat → Nat → Nat} {h0 : Nat} {kB kI kZ : ClassId} {q : Nat → Nat} {g : Nat → Int32} {F : Nat → Nat → Int32} {H : Heap} {locs : List Loc} {ls : Array Slot} (p0 : Int32) (r : Int32) (c_g1 : Int32) (c_g2 : Int32) (c_g3 : Int32) (c_g4 : Int32) (c_g5 : Int32) (c_g6 : Int32) (c_g7 : Int32) (c_g8 : Int32) (c_g9 : Int32) (c_g51 : Int32) (c_F10 : (Nat → Int32)) (c_F11 : (Nat → Int32)) (c_F12 : (Nat → Int32)) (c_F13 : (Nat → Int32)) (c_F14 : (Nat → Int32)) (c_F15 : (Nat → Int32)) (c_F16 : (Nat → Int32)) (c_F17 : (Nat → Int32)) (c_F18 : (Nat → Int32)) (c_F19 : (Nat → Int32)) (c_F20 : (Nat → Int32)) (c_F21 : (Nat → Int32)) (hr : f_reform g F p0 = some (r, c_g1, c_g2, c_g3, c_g4, c_g5, c_g6, c_g7, c_g8, c_g9, c_g51, c_F10, c_F11, c_F12, c_F13, c_F14, c_F15, c_F16, c_F17, c_F18, c_F19, c_F20, c_F21)) (hx : p.tables.exec = Jvm.exec) (hb : c.code = cX12_reform) (hml : c.maxLocals = 4) (hown : s.vm.findClass RX12 = some m.cls) (hts : ∀ w ∈ vmX12_reform, w.before args s = true) (hA : ∀ q : Nat, s.heap.size ≤ q → A q) (hK : va_K (dC, dI) vwCl (mT kB kI kZ) s) {adK adV : Nat → Nat} (hSE : SE adK adV A s) (hP : va_P (dC, dI) vwCl (mW h0 kB kI kZ q g F) H) (hD : va_D A (mW h0 kB kI kZ q g F)) (hS : va_S A s.heap H locs) (hl : lv_has ls 4 [(0, .ref h0), (1, .int p0)])
    (K : ∀ (pc : Nat) (ls : Array Slot) (rz : Int32) (c_g1z : Int32) (c_g2z : Int32) (c_g3z : Int32) (c_g4z : Int32) (c_g5z : Int32) (c_g6z : Int32) (c_g7z : Int32) (c_g8z : Int32) (c_g9z : Int32) (c_g51z : Int32) (c_F10z : (Nat → Int32)) (c_F11z : (Nat → Int32)) (c_F12z : (Nat → Int32)) (c_F13z : (Nat → Int32)) (c_F14z : (Nat → Int32)) (c_F15z : (Nat → Int32)) (c_F16z : (Nat → Int32)) (c_F17z : (Nat → Int32)) (c_F18z : (Nat → Int32)) (c_F19z : (Nat → Int32)) (c_F20z : (Nat → Int32)) (c_F21z : (Nat → Int32)) (H : Heap) (locs : List Loc), some (rz, c_g1z, c_g2z, c_g3z, c_g4z, c_g5z, c_g6z, c_g7z, c_g8z, c_g9z, c_g51z, c_F10z, c_F11z, c_F12z, c_F13z, c_F14z, c_F15z, c_F16z, c_F17z, c_F18z, c_F19z, c_F20z, c_F21z) = some (r, c_g1, c_g2, c_g3, c_g4, c_g5, c_g6, c_g7, c_g8, c_g9, c_g51, c_F10, c_F11, c_F12, c_F13, c_F14, c_F15, c_F16, c_F17, c_F18, c_F19, c_F20, c_F21) → decode cX12_reform pc = .ok (.ireturn, 1) → va_P (dC, dI) vwCl (mW h0 kB kI kZ q (upd (upd (upd (upd (upd (upd (upd (upd (upd (upd g 1 c_g1z) 2 c_g2z) 3 c_g3z) 4 c_g4z) 5 c_g5z) 6 c_g6z) 7 c_g7z) 8 c_g8z) 9 c_g9z) 51 c_g51z) (upF (upF (upF (upF (upF (upF (upF (upF (upF (upF (upF (upF F 10 c_F10z) 11 c_F11z) 12 c_F12z) 13 c_F13z) 14 c_F14z) 15 c_F15z) 16 c_F16z) 17 c_F17z) 18 c_F18z) 19 c_F19z) 20 c_F20z) 21 c_F21z)) H → va_D A (mW h0 kB kI kZ q (upd (upd (upd (upd (upd (upd (upd (upd (upd (upd g 1 c_g1z) 2 c_g2z) 3 c_g3z) 4 c_g4z) 5 c_g5z) 6 c_g6z) 7 c_g7z) 8 c_g8z) 9 c_g9z) 51 c_g51z) (upF (upF (upF (upF (upF (upF (upF (upF (upF (upF (upF (upF F 10 c_F10z) 11 c_F11z) 12 c_F12z) 13 c_F13z) 14 c_F14z) 15 c_F15z) 16 c_F16z) 17 c_F17z) 18 c_F18z) 19 c_F19z) 20 c_F20z) 21 c_F21z)) → va_S A s.heap H locs → W p l e ({ frames := 10, cells := 0, slots := 0, locals := 434 } : Room) s m args below meth c H locs 0 0 Q (F0 m pc ls [.int rz])) : W p l e ({ frames := 10, cells := 0, slots := 0, locals := 434 } : Room) s m args below meth c H locs 0 0 Q (F0 m 0 ls []) := by
  unfold f_reform at hr
  refine lv_aload_n hx hb dX12_reform_0 rfl (lv_at hl 0 rfl) ?_
  refine lv_aload_n hx hb dX12_reform_1 rfl (lv_at hl 0 rfl) ?_
  refine va_get (D := (dC, dI)) (ci := 12) (v := .int (g 1)) (C := RX12) (T := TX12) (N := 71) hx hb hts inX12 hown hK hP 0 rfl rfl 1 (by decide) (hts (.fieldLink RX12 152 "SpellTurnerModel" "taped" "I") im_45) (fun _ h9 => h9) rfl dX12_reform_2 ?_
  refine va_put (D := (dC, dI)) (ci := 12) (v := .int (g 1)) (ty := .int) (C := RX12) (T := TX12) (N := 71) hx hb hts inX12 tyX12 tyX12_ok nmX12 hown hK hP hD hS 0 rfl rfl 2 (by decide) (hts (.fieldLink RX12 155 "SpellTurnerModel" "size" "I") im_33) (fun _ h9 => h9) rfl (by decide +kernel) rfl rfl (Nat.le_of_ble_eq_true rfl) dX12_reform_5 (fun H locs hP hD hS => ?_)
  have hP : va_P (dC, dI) vwCl (mW h0 kB kI kZ q (upd g 2 (g 1)) F) H := by first | exact sP_g2 hP rfl | exact sP_g2 hP upd_same | exact hP
  have hD : va_D A (mW h0 kB kI kZ q (upd g 2 (g 1)) F) := by first | exact sD_g2 hD rfl | exact sD_g2 hD upd_same | exact hD
  refine lv_aload_n hx hb dX12_reform_8 rfl (lv_at hl 0 rfl) ?_
  refine lv_iconst (v := 0) hx hb dX12_reform_9 (by decide +kernel) ?_
  refine va_put (D := (dC, dI)) (ci := 12) (v := .int 0) (ty := .int) (C := RX12) (T := TX12) (N := 71) hx hb hts inX12 tyX12 tyX12_ok nmX12 hown hK hP hD hS 0 rfl rfl 1 (by decide) (hts (.fieldLink RX12 152 "SpellTurnerModel" "taped" "I") im_45) (fun _ h9 => h9) rfl (by decide +kernel) rfl rfl (Nat.le_of_ble_eq_true rfl) dX12_reform_10 (fun H locs hP hD hS => ?_)
  have hP : va_P (dC, dI) vwCl (mW h0 kB kI kZ q (upd (upd g 1 0) 2 (g 1)) F) H := by first | exact sP_g1 hP (upd_in (by decide) rfl) | exact sP_g1 hP (upd_in (by decide) upd_same) | exact hP
  have hD : va_D A (mW h0 kB kI kZ q (upd (upd g 1 0) 2 (g 1)) F) := by first | exact sD_g1 hD (upd_in (by decide) rfl) | exact sD_g1 hD (upd_in (by decide) upd_same) | exact hD
  refine lv_iload_n hx hb dX12_reform_13 rfl (lv_at hl 1 rfl) ?_
  refine lv_aload_n hx hb dX12_reform_14 rfl (lv_at hl 0 rfl) ?_
  refine va_get (D := (dC, dI)) (ci := 12) (v := .int (g 9)) (C := RX12) (T := TX12) (N := 71) hx hb hts inX12 hown hK hP 0 rfl rfl 9 (by decide) (hts (.fieldLink RX12 222 "SpellTurnerModel" "reforms" "I") im_40) (fun _ h9 => h9) rfl dX12_reform_15 ?_
  replace hr := jnS hr
  obtain ⟨j38, hj38, hr⟩ := hr
  have Jj38 : ∀ (t38_0 : Int32) (H : Heap) (locs : List Loc) (ls : Array Slot), j38 t38_0 = some (r, c_g1, c_g2, c_g3, c_g4, c_g5, c_g6, c_g7, c_g8, c_g9, c_g51, c_F10, c_F11, c_F12, c_F13, c_F14, c_F15, c_F16, c_F17, c_F18, c_F19, c_F20, c_F21) → va_P (dC, dI) vwCl (mW h0 kB kI kZ q (upd (upd g 1 0) 2 (g 1)) F) H → va_D A (mW h0 kB kI kZ q (upd (upd g 1 0) 2 (g 1)) F) → va_S A s.heap H locs → lv_has ls 4 [(0, .ref h0), (1, .int p0)] → W p l e ({ frames := 10, cells := 0, slots := 0, locals := 434 } : Room) s m args below meth c H locs 0 0 Q (F0 m 38 ls [.int t38_0, .int p0]) := by
    intro t38_0 H locs ls hr hP hD hS hl
    rw [hj38] at hr
    refine lv_ldc (own := RX12) (v := 100000) hx hb hown (hts (.constant RX12 225 (100000)) im_75) dX12_reform_38 ?_
    replace hr := b1S hr
    obtain ⟨r40z, hc40, hr⟩ := hr
    have hFc := fr_all hD hS hA
    refine va_calli (va_runS (As := [.int p0, .int t38_0, .int 100000]) (rest := []) ⟨hx, hb, hml, hown, hts⟩ (m_in l dC dI H.size h0 kB kI kZ q (upd (upd g 1 0) 2 (g 1)) F p0 t38_0 100000 r40z hc40) (va_cwS 3 hts gw_X12_in_226 rfl rfl rfl (by decide +kernel) ⟨Nat.le_of_ble_eq_true rfl, Nat.le_of_ble_eq_true rfl⟩) ⟨fun a U g mk q => by obtain ⟨q0, q1, qP, qK, qD⟩ := q; exact ⟨q0, q1, qP, va_K.moved (u := U) (U := U.calling g mk a) (Vm.Alike.refl U.vm) qK, qD⟩, fun U hU hW => ⟨rfl, by rw [hU], by rw [hU]; exact hP, va_K.moved hW.alike hK, hD.weaken (fun _ _ _ _ => trivial)⟩⟩ rfl rfl hl.1 rfl (lv_room (Nat.le_of_ble_eq_true rfl)) dX12_reform_40 ⟨Nat.le_of_ble_eq_true rfl, Nat.le_of_ble_eq_true rfl⟩) hS (fun q _ h => hFc q h) hFc (fun r40 u t H1 locs ht hvm hw hB hz1 hk1 hS => ?_)
    replace hw : r40 = r40z := hw
    subst hw
    obtain ⟨hP1, hK1, hD1⟩ := hB
    rw [ht] at hP1
    obtain ⟨hP, hD⟩ := jn_all (w1 := (mW h0 kB kI kZ q (upd (upd g 1 0) 2 (g 1)) F)) hFc hP1 hD1
    clear hFc hP1 hK1 hD1 hk1 hz1 ht hvm
    generalize H1 = H at hP hS ⊢
    have hP : va_P (dC, dI) vwCl (mW h0 kB kI kZ q (upd (upd g 1 0) 2 (g 1)) F) H := hP
    have hD : va_D A (mW h0 kB kI kZ q (upd (upd g 1 0) 2 (g 1)) F) := hD
    refine lv_if_ne (tgt := 49) hx hb dX12_reform_43 (by decide) (fun c43 => ?_) (fun c43 => ?_)
    · replace hr := iteF c43 hr
      refine lv_aload_n hx hb dX12_reform_49 rfl (lv_at hl 0 rfl) ?_
      refine lv_iconst (v := 0) hx hb dX12_reform_50 (by decide +kernel) ?_
      refine va_put (D := (dC, dI)) (ci := 12) (v := .int 0) (ty := .int) (C := RX12) (T := TX12) (N := 71) hx hb hts inX12 tyX12 tyX12_ok nmX12 hown hK hP hD hS 0 rfl rfl 7 (by decide) (hts (.fieldLink RX12 194 "SpellTurnerModel" "faultKind" "I") im_36) (fun _ h9 => h9) rfl (by decide +kernel) rfl rfl (Nat.le_of_ble_eq_true rfl) dX12_reform_51 (fun H locs hP hD hS => ?_)
      have hP : va_P (dC, dI) vwCl (mW h0 kB kI kZ q (upd (upd (upd g 1 0) 2 (g 1)) 7 0) F) H := by first | exact sP_g7 hP rfl | exact sP_g7 hP upd_same | exact hP
      have hD : va_D A (mW h0 kB kI kZ q (upd (upd (upd g 1 0) 2 (g 1)) 7 0) F) := by first | exact sD_g7 hD rfl | exact sD_g7 hD upd_same | exact hD
      refine lv_aload_n hx hb dX12_reform_54 rfl (lv_at hl 0 rfl) ?_
      refine lv_iconst (v := (-1)) hx hb dX12_reform_55 (by decide +kernel) ?_
      refine va_put (D := (dC, dI)) (ci := 12) (v := .int (-1)) (ty := .int) (C := RX12) (T := TX12) (N := 71) hx hb hts inX12 tyX12 tyX12_ok nmX12 hown hK hP hD hS 0 rfl rfl 8 (by decide) (hts (.fieldLink RX12 13 "SpellTurnerModel" "faultPlace" "I") im_38) (fun _ h9 => h9) rfl (by decide +kernel) rfl rfl (Nat.le_of_ble_eq_true rfl) dX12_reform_56 (fun H locs hP hD hS => ?_)
      have hP : va_P (dC, dI) vwCl (mW h0 kB kI kZ q (upd (upd (upd (upd g 1 0) 2 (g 1)) 7 0) 8 (-1)) F) H := by first | exact sP_g8 hP rfl | exact sP_g8 hP upd_same | exact hP
      have hD : va_D A (mW h0 kB kI kZ q (upd (upd (upd (upd g 1 0) 2 (g 1)) 7 0) 8 (-1)) F) := by first | exact sD_g8 hD rfl | exact sD_g8 hD upd_same | exact hD
      refine lv_aload_n hx hb dX12_reform_59 rfl (lv_at hl 0 rfl) ?_
      refine va_get (D := (dC, dI)) (ci := 12) (v := .ref (q 11)) (C := RX12) (T := TX12) (N := 71) hx hb hts inX12 hown hK hP 0 rfl rfl 11 (by decide) (hts (.fieldLink RX12 21 "SpellTurnerModel" "laws" "[I") im_61) (fun _ h9 => h9) rfl dX12_reform_60 ?_
      refine lv_bipush (v := 6) hx hb dX12_reform_63 (by decide +kernel) ?_
      refine lv_iconst (v := 0) hx hb dX12_reform_65 (by decide +kernel) ?_
      replace hr := iteS hr
      obtain ⟨hi66, hr⟩ := hr
      refine va_iast (f := (F 11)) hx hb hK hP hD hS 3 1 rfl rfl (inbV hi66) dX12_reform_66 (fun H locs hP hD hS => ?_)
      obtain ⟨w66, ew66, hP, hD⟩ : ∃ w66 : Nat → Int32, w66 = (upd (F 11) (Int32.toNatClampNeg 6) 0) ∧ va_P (dC, dI) vwCl (mW h0 kB kI kZ q (upd (upd (upd (upd g 1 0) 2 (g 1)) 7 0) 8 (-1)) (upF F 11 w66)) H ∧ va_D A (mW h0 kB kI kZ q (upd (upd (upd (upd g 1 0) 2 (g 1)) 7 0) 8 (-1)) (upF F 11 w66)) := ⟨(upd (F 11) (Int32.toNatClampNeg 6) 0), rfl, by first | exact sP_F11 hP rfl | exact sP_F11 hP upF_same | exact hP, by first | exact sD_F11 hD rfl | exact sD_F11 hD upF_same | exact hD⟩
      replace hr := vlS hr w66 ew66
      clear ew66
      refine lv_aload_n hx hb dX12_reform_67 rfl (lv_at hl 0 rfl) ?_
      refine va_get (D := (dC, dI)) (ci := 12) (v := .ref (q 12)) (C := RX12) (T := TX12) (N := 71) hx hb hts inX12 hown hK hP 0 rfl rfl 12 (by decide) (hts (.fieldLink RX12 24 "SpellTurnerModel" "parts" "[I") im_56) (fun _ h9 => h9) rfl dX12_reform_68 ?_
      refine lv_bipush (v := 6) hx hb dX12_reform_71 (by decide +kernel) ?_
      refine lv_iconst (v := 0) hx hb dX12_reform_73 (by decide +kernel) ?_
      replace hr := iteS hr
      obtain ⟨hi74, hr⟩ := hr
      refine va_iast (f := (F 12)) hx hb hK hP hD hS 4 1 rfl rfl (inbV hi74) dX12_reform_74 (fun H locs hP hD hS => ?_)
      obtain ⟨w74, ew74, hP, hD⟩ : ∃ w74 : Nat → Int32, w74 = (upd (F 12) (Int32.toNatClampNeg 6) 0) ∧ va_P (dC, dI) vwCl (mW h0 kB kI kZ q (upd (upd (upd (upd g 1 0) 2 (g 1)) 7 0) 8 (-1)) (upF (upF F 11 w66) 12 w74)) H ∧ va_D A (mW h0 kB kI kZ q (upd (upd (upd (upd g 1 0) 2 (g 1)) 7 0) 8 (-1)) (upF (upF F 11 w66) 12 w74)) := ⟨(upd (F 12) (Int32.toNatClampNeg 6) 0), rfl, by first | exact sP_F12 hP rfl | exact sP_F12 hP upF_same | exact hP, by first | exact sD_F12 hD rfl | exact sD_F12 hD upF_same | exact hD⟩
      replace hr := vlS hr w74 ew74
      clear ew74
      refine lv_aload_n hx hb dX12_reform_75 rfl (lv_at hl 0 rfl) ?_
      refine va_get (D := (dC, dI)) (ci := 12) (v := .ref (q 13)) (C := RX12) (T := TX12) (N := 71) hx hb hts inX12 hown hK hP 0 rfl rfl 13 (by decide) (hts (.fieldLink RX12 27 "SpellTurnerModel" "listed" "[I") im_62) (fun _ h9 => h9) rfl dX12_reform_76 ?_
      refine lv_bipush (v := 6) hx hb dX12_reform_79 (by decide +kernel) ?_
      refine lv_iconst (v := 0) hx hb dX12_reform_81 (by decide +kernel) ?_
      replace hr := iteS hr
      obtain ⟨hi82, hr⟩ := hr
      refine va_iast (f := (F 13)) hx hb hK hP hD hS 5 1 rfl rfl (inbV hi82) dX12_reform_82 (fun H locs hP hD hS => ?_)
      obtain ⟨w82, ew82, hP, hD⟩ : ∃ w82 : Nat → Int32, w82 = (upd (F 13) (Int32.toNatClampNeg 6) 0) ∧ va_P (dC, dI) vwCl (mW h0 kB kI kZ q (upd (upd (upd (upd g 1 0) 2 (g 1)) 7 0) 8 (-1)) (upF (upF (upF F 11 w66) 12 w74) 13 w82)) H ∧ va_D A (mW h0 kB kI kZ q (upd (upd (upd (upd g 1 0) 2 (g 1)) 7 0) 8 (-1)) (upF (upF (upF F 11 w66) 12 w74) 13 w82)) := ⟨(upd (F 13) (Int32.toNatClampNeg 6) 0), rfl, by first | exact sP_F13 hP rfl | exact sP_F13 hP upF_same | exact hP, by first | exact sD_F13 hD rfl | exact sD_F13 hD upF_same | exact hD⟩
      replace hr := vlS hr w82 ew82
      clear ew82
      refine lv_aload_n hx hb dX12_reform_83 rfl (lv_at hl 0 rfl) ?_
      refine lv_iconst (v := 0) hx hb dX12_reform_84 (by decide +kernel) ?_
      refine va_put (D := (dC, dI)) (ci := 12) (v := .int 0) (ty := .int) (C := RX12) (T := TX12) (N := 71) hx hb hts inX12 tyX12 tyX12_ok nmX12 hown hK hP hD hS 0 rfl rfl 6 (by decide) (hts (.fieldLink RX12 174 "SpellTurnerModel" "end" "I") im_66) (fun _ h9 => h9) rfl (by decide +kernel) rfl rfl (Nat.le_of_ble_eq_true rfl) dX12_reform_85 (fun H locs hP hD hS => ?_)
      have hP : va_P (dC, dI) vwCl (mW h0 kB kI kZ q (upd (upd (upd (upd (upd g 1 0) 2 (g 1)) 6 0) 7 0) 8 (-1)) (upF (upF (upF F 11 w66) 12 w74) 13 w82)) H := by first | exact sP_g6 hP (upd_in (by decide) (upd_in (by decide) rfl)) | exact sP_g6 hP (upd_in (by decide) (upd_in (by decide) upd_same)) | exact hP
      have hD : va_D A (mW h0 kB kI kZ q (upd (upd (upd (upd (upd g 1 0) 2 (g 1)) 6 0) 7 0) 8 (-1)) (upF (upF (upF F 11 w66) 12 w74) 13 w82)) := by first | exact sD_g6 hD (upd_in (by decide) (upd_in (by decide) rfl)) | exact sD_g6 hD (upd_in (by decide) (upd_in (by decide) upd_same)) | exact hD
      refine lv_aload_n hx hb dX12_reform_88 rfl (lv_at hl 0 rfl) ?_
      replace hr := b4S hr
      obtain ⟨c89_g3, c89_g4, c89_g5, c89_g6, hc89, hr⟩ := hr
      have hFc := fr_all hD hS hA
      refine va_callv (va_runV (As := []) (rest := []) ⟨hx, hb, hml, hown, hts⟩ (m_scan l dC dI adK adV H.size h0 kB kI kZ q (upd (upd (upd (upd (upd g 1 0) 2 (g 1)) 6 0) 7 0) 8 (-1)) (upF (upF (upF F 11 w66) 12 w74) 13 w82) c89_g3 c89_g4 c89_g5 c89_g6 hc89) (cwV 0 hts gw_X12_scan_200 rfl rfl rfl (by decide +kernel) ⟨Nat.le_of_ble_eq_true rfl, Nat.le_of_ble_eq_true rfl⟩) ⟨fun a U g mk q => by obtain ⟨q0, q1, qP, qK, qD, qS⟩ := q; exact ⟨q0, q1, qP, va_K.moved (u := U) (U := U.calling g mk a) (Vm.Alike.refl U.vm) qK, qD, qS.calling⟩, va_recv hK hP (ci := 12) (q0 := 0) rfl rfl, fun U hU hW => ⟨rfl, by rw [hU], by rw [hU]; exact hP, va_K.moved hW.alike hK, hD.weaken (fun _ _ _ _ => trivial), (hSE.warm hS hU hW).narrow hFc⟩⟩ rfl rfl hl.1 rfl (lv_room (Nat.le_of_ble_eq_true rfl)) dX12_reform_89 ⟨Nat.le_of_ble_eq_true rfl, Nat.le_of_ble_eq_true rfl⟩) hS (fun q _ h => hFc q h) hFc (fun u t H1 locs ht hvm hw hB hz1 hk1 hS => ?_)
      obtain ⟨hP1, hK1, hD1⟩ := hB
      rw [ht] at hP1
      obtain ⟨hP, hD⟩ := jn_all (w1 := (mW h0 kB kI kZ q (upd (upd (upd (upd (upd (upd (upd (upd g 1 0) 2 (g 1)) 3 c89_g3) 4 c89_g4) 5 c89_g5) 6 c89_g6) 7 0) 8 (-1)) (upF (upF (upF F 11 w66) 12 w74) 13 w82))) hFc hP1 hD1
      clear hFc hP1 hK1 hD1 hk1 hz1 ht hvm
      generalize H1 = H at hP hS ⊢
      have hP : va_P (dC, dI) vwCl (mW h0 kB kI kZ q (upd (upd (upd (upd (upd (upd (upd (upd g 1 0) 2 (g 1)) 3 c89_g3) 4 c89_g4) 5 c89_g5) 6 c89_g6) 7 0) 8 (-1)) (upF (upF (upF F 11 w66) 12 w74) 13 w82)) H := hP
      have hD : va_D A (mW h0 kB kI kZ q (upd (upd (upd (upd (upd (upd (upd (upd g 1 0) 2 (g 1)) 3 c89_g3) 4 c89_g4) 5 c89_g5) 6 c89_g6) 7 0) 8 (-1)) (upF (upF (upF F 11 w66) 12 w74) 13 w82)) := hD
      replace hr := jnS hr
      obtain ⟨k109, hk109, hr⟩ := hr
      have Jk109 : ∀ (c109_g3 : Int32) (c109_g4 : Int32) (c109_g5 : Int32) (c109_g6 : Int32) (c109_g7 : Int32) (c109_g8 : Int32) (c109_F11 : (Nat → Int32)) (c109_F12 : (Nat → Int32)) (c109_F13 : (Nat → Int32)) (c109_F14 : (Nat → Int32)) (c109_F15 : (Nat → Int32)) (c109_F16 : (Nat → Int32)) (c109_F17 : (Nat → Int32)) (c109_F18 : (Nat → Int32)) (c109_F19 : (Nat → Int32)) (c109_F20 : (Nat → Int32)) (c109_F21 : (Nat → Int32)) (H : Heap) (locs : List Loc) (ls : Array Slot), k109 c109_g3 c109_g4 c109_g5 c109_g6 c109_g7 c109_g8 c109_F11 c109_F12 c109_F13 c109_F14 c109_F15 c109_F16 c109_F17 c109_F18 c109_F19 c109_F20 c109_F21 = some (r, c_g1, c_g2, c_g3, c_g4, c_g5, c_g6, c_g7, c_g8, c_g9, c_g51, c_F10, c_F11, c_F12, c_F13, c_F14, c_F15, c_F16, c_F17, c_F18, c_F19, c_F20, c_F21) → va_P (dC, dI) vwCl (mW h0 kB kI kZ q (upd (upd (upd (upd (upd (upd (upd (upd g 1 0) 2 (g 1)) 3 c109_g3) 4 c109_g4) 5 c109_g5) 6 c109_g6) 7 c109_g7) 8 c109_g8) (upF (upF (upF (upF (upF (upF (upF (upF (upF (upF (upF F 11 c109_F11) 12 c109_F12) 13 c109_F13) 14 c109_F14) 15 c109_F15) 16 c109_F16) 17 c109_F17) 18 c109_F18) 19 c109_F19) 20 c109_F20) 21 c109_F21)) H → va_D A (mW h0 kB kI kZ q (upd (upd (upd (upd (upd (upd (upd (upd g 1 0) 2 (g 1)) 3 c109_g3) 4 c109_g4) 5 c109_g5) 6 c109_g6) 7 c109_g7) 8 c109_g8) (upF (upF (upF (upF (upF (upF (upF (upF (upF (upF (upF F 11 c109_F11) 12 c109_F12) 13 c109_F13) 14 c109_F14) 15 c109_F15) 16 c109_F16) 17 c109_F17) 18 c109_F18) 19 c109_F19) 20 c109_F20) 21 c109_F21)) → va_S A s.heap H locs → lv_has ls 4 [(0, .ref h0), (1, .int p0)] → W p l e ({ frames := 10, cells := 0, slots := 0, locals := 434 } : Room) s m args below meth c H locs 0 0 Q (F0 m 109 ls []) := by
        intro c109_g3 c109_g4 c109_g5 c109_g6 c109_g7 c109_g8 c109_F11 c109_F12 c109_F13 c109_F14 c109_F15 c109_F16 c109_F17 c109_F18 c109_F19 c109_F20 c109_F21 H locs ls hr hP hD hS hl
        rw [hk109] at hr
        refine lv_aload_n hx hb dX12_reform_109 rfl (lv_at hl 0 rfl) ?_
        refine va_get (D := (dC, dI)) (ci := 12) (v := .int (g 9)) (C := RX12) (T := TX12) (N := 71) hx hb hts inX12 hown hK hP 0 rfl rfl 9 (by decide) (hts (.fieldLink RX12 222 "SpellTurnerModel" "reforms" "I") im_40) (fun _ h9 => h9) rfl dX12_reform_110 ?_
        refine lv_bipush (v := 6) hx hb dX12_reform_113 (by decide +kernel) ?_
        refine lv_icmp_ne (tgt := 121) hx hb dX12_reform_115 (by decide) (fun c115 => ?_) (fun c115 => ?_)
        · replace hr := iteF c115 hr
          refine lv_aload_n hx hb dX12_reform_121 rfl (lv_at hl 0 rfl) ?_
          refine va_get (D := (dC, dI)) (ci := 12) (v := .int (g 9)) (C := RX12) (T := TX12) (N := 71) hx hb hts inX12 hown hK hP 0 rfl rfl 9 (by decide) (hts (.fieldLink RX12 222 "SpellTurnerModel" "reforms" "I") im_40) (fun _ h9 => h9) rfl dX12_reform_122 ?_
          refine lv_istore_n (lv' := [(2, .int (g 9)), (0, .ref h0), (1, .int p0)]) hx hb dX12_reform_125 rfl hl (by decide) rfl (fun ls hl => ?_)
          refine lv_aload_n hx hb dX12_reform_126 rfl (lv_at hl 1 rfl) ?_
          refine va_get (D := (dC, dI)) (ci := 12) (v := .ref (q 10)) (C := RX12) (T := TX12) (N := 71) hx hb hts inX12 hown hK hP 0 rfl rfl 10 (by decide) (hts (.fieldLink RX12 17 "SpellTurnerModel" "day" "[I") im_60) (fun _ h9 => h9) rfl dX12_reform_127 ?_
          refine lv_iload_n hx hb dX12_reform_130 rfl (lv_at hl 0 rfl) ?_
          refine lv_iload_n hx hb dX12_reform_131 rfl (lv_at hl 2 rfl) ?_
          replace hr := iteS hr
          obtain ⟨hi132, hr⟩ := hr
          refine va_iast (f := (F 10)) hx hb hK hP hD hS 2 1 rfl rfl (inbV hi132) dX12_reform_132 (fun H locs hP hD hS => ?_)
          obtain ⟨w132, ew132, hP, hD⟩ : ∃ w132 : Nat → Int32, w132 = (upd (F 10) (Int32.toNatClampNeg (g 9)) p0) ∧ va_P (dC, dI) vwCl (mW h0 kB kI kZ q (upd (upd (upd (upd (upd (upd (upd (upd g 1 0) 2 (g 1)) 3 c109_g3) 4 c109_g4) 5 c109_g5) 6 c109_g6) 7 c109_g7) 8 c109_g8) (upF (upF (upF (upF (upF (upF (upF (upF (upF (upF (upF (upF F 10 w132) 11 c109_F11) 12 c109_F12) 13 c109_F13) 14 c109_F14) 15 c109_F15) 16 c109_F16) 17 c109_F17) 18 c109_F18) 19 c109_F19) 20 c109_F20) 21 c109_F21)) H ∧ va_D A (mW h0 kB kI kZ q (upd (upd (upd (upd (upd (upd (upd (upd g 1 0) 2 (g 1)) 3 c109_g3) 4 c109_g4) 5 c109_g5) 6 c109_g6) 7 c109_g7) 8 c109_g8) (upF (upF (upF (upF (upF (upF (upF (upF (upF (upF (upF (upF F 10 w132) 11 c109_F11) 12 c109_F12) 13 c109_F13) 14 c109_F14) 15 c109_F15) 16 c109_F16) 17 c109_F17) 18 c109_F18) 19 c109_F19) 20 c109_F20) 21 c109_F21)) := ⟨(upd (F 10) (Int32.toNatClampNeg (g 9)) p0), rfl, by first | exact sP_F10 hP (upF_in (by decide) (upF_in (by decide) (upF_in (by decide) (upF_in (by decide) (upF_in (by decide) (upF_in (by decide) (upF_in (by decide) (upF_in (by decide) (upF_in (by decide) (upF_in (by decide) (upF_in (by decide) rfl))))))))))) | exact sP_F10 hP (upF_in (by decide) (upF_in (by decide) (upF_in (by decide) (upF_in (by decide) (upF_in (by decide) (upF_in (by decide) (upF_in (by decide) (upF_in (by decide) (upF_in (by decide) (upF_in (by decide) (upF_in (by decide) upF_same))))))))))) | exact hP, by first | exact sD_F10 hD (upF_in (by decide) (upF_in (by decide) (upF_in (by decide) (upF_in (by decide) (upF_in (by decide) (upF_in (by decide) (upF_in (by decide) (upF_in (by decide) (upF_in (by decide) (upF_in (by decide) (upF_in (by decide) rfl))))))))))) | exact sD_F10 hD (upF_in (by decide) (upF_in (by decide) (upF_in (by decide) (upF_in (by decide) (upF_in (by decide) (upF_in (by decide) (upF_in (by decide) (upF_in (by decide) (upF_in (by decide) (upF_in (by decide) (upF_in (by decide) upF_same))))))))))) | exact hD⟩
          replace hr := vlS hr w132 ew132
          clear ew132
          refine lv_aload_n hx hb dX12_reform_133 rfl (lv_at hl 1 rfl) ?_
          refine va_get (D := (dC, dI)) (ci := 12) (v := .ref (q 11)) (C := RX12) (T := TX12) (N := 71) hx hb hts inX12 hown hK hP 0 rfl rfl 11 (by decide) (hts (.fieldLink RX12 21 "SpellTurnerModel" "laws" "[I") im_61) (fun _ h9 => h9) rfl dX12_reform_134 ?_
          refine lv_iload_n hx hb dX12_reform_137 rfl (lv_at hl 0 rfl) ?_
          refine lv_aload_n hx hb dX12_reform_138 rfl (lv_at hl 1 rfl) ?_
          refine va_get (D := (dC, dI)) (ci := 12) (v := .ref (q 11)) (C := RX12) (T := TX12) (N := 71) hx hb hts inX12 hown hK hP 0 rfl rfl 11 (by decide) (hts (.fieldLink RX12 21 "SpellTurnerModel" "laws" "[I") im_61) (fun _ h9 => h9) rfl dX12_reform_139 ?_
          refine lv_bipush (v := 6) hx hb dX12_reform_142 (by decide +kernel) ?_
          replace hr := iteS hr
          obtain ⟨hi144, hr⟩ := hr
          refine va_iald (f := c109_F11) hx hb hK hP 3 1 rfl rfl (inbV hi144) dX12_reform_144 ?_
          replace hr := iteS hr
          obtain ⟨hi145, hr⟩ := hr
          refine va_iast (f := c109_F11) hx hb hK hP hD hS 3 1 rfl rfl (inbV hi145) dX12_reform_145 (fun H locs hP hD hS => ?_)
          obtain ⟨w145, ew145, hP, hD⟩ : ∃ w145 : Nat → Int32, w145 = (upd c109_F11 (Int32.toNatClampNeg (g 9)) (c109_F11 (Int32.toNatClampNeg 6))) ∧ va_P (dC, dI) vwCl (mW h0 kB kI kZ q (upd (upd (upd (upd (upd (upd (upd (upd g 1 0) 2 (g 1)) 3 c109_g3) 4 c109_g4) 5 c109_g5) 6 c109_g6) 7 c109_g7) 8 c109_g8) (upF (upF (upF (upF (upF (upF (upF (upF (upF (upF (upF (upF F 10 w132) 11 w145) 12 c109_F12) 13 c109_F13) 14 c109_F14) 15 c109_F15) 16 c109_F16) 17 c109_F17) 18 c109_F18) 19 c109_F19) 20 c109_F20) 21 c109_F21)) H ∧ va_D A (mW h0 kB kI kZ q (upd (upd (upd (upd (upd (upd (upd (upd g 1 0) 2 (g 1)) 3 c109_g3) 4 c109_g4) 5 c109_g5) 6 c109_g6) 7 c109_g7) 8 c109_g8) (upF (upF (upF (upF (upF (upF (upF (upF (upF (upF (upF (upF F 10 w132) 11 w145) 12 c109_F12) 13 c109_F13) 14 c109_F14) 15 c109_F15) 16 c109_F16) 17 c109_F17) 18 c109_F18) 19 c109_F19) 20 c109_F20) 21 c109_F21)) := ⟨(upd c109_F11 (Int32.toNatClampNeg (g 9)) (c109_F11 (Int32.toNatClampNeg 6))), rfl, by first | exact sP_F11 hP (upF_in (by decide) (upF_in (by decide) (upF_in (by decide) (upF_in (by decide) (upF_in (by decide) (upF_in (by decide) (upF_in (by decide) (upF_in (by decide) (upF_in (by decide) (upF_in (by decide) upF_same)))))))))) | exact sP_F11 hP (upF_in (by decide) (upF_in (by decide) (upF_in (by decide) (upF_in (by decide) (upF_in (by decide) (upF_in (by decide) (upF_in (by decide) (upF_in (by decide) (upF_in (by decide) (upF_in (by decide) rfl)))))))))) | exact hP, by first | exact sD_F11 hD (upF_in (by decide) (upF_in (by decide) (upF_in (by decide) (upF_in (by decide) (upF_in (by decide) (upF_in (by decide) (upF_in (by decide) (upF_in (by decide) (upF_in (by decide) (upF_in (by decide) upF_same)))))))))) | exact sD_F11 hD (upF_in (by decide) (upF_in (by decide) (upF_in (by decide) (upF_in (by decide) (upF_in (by decide) (upF_in (by decide) (upF_in (by decide) (upF_in (by decide) (upF_in (by decide) (upF_in (by decide) rfl)))))))))) | exact hD⟩
          replace hr := vlS hr w145 ew145
          clear ew145
          refine lv_aload_n hx hb dX12_reform_146 rfl (lv_at hl 1 rfl) ?_
          refine va_get (D := (dC, dI)) (ci := 12) (v := .ref (q 12)) (C := RX12) (T := TX12) (N := 71) hx hb hts inX12 hown hK hP 0 rfl rfl 12 (by decide) (hts (.fieldLink RX12 24 "SpellTurnerModel" "parts" "[I") im_56) (fun _ h9 => h9) rfl dX12_reform_147 ?_
          refine lv_iload_n hx hb dX12_reform_150 rfl (lv_at hl 0 rfl) ?_
          refine lv_aload_n hx hb dX12_reform_151 rfl (lv_at hl 1 rfl) ?_
          refine va_get (D := (dC, dI)) (ci := 12) (v := .ref (q 12)) (C := RX12) (T := TX12) (N := 71) hx hb hts inX12 hown hK hP 0 rfl rfl 12 (by decide) (hts (.fieldLink RX12 24 "SpellTurnerModel" "parts" "[I") im_56) (fun _ h9 => h9) rfl dX12_reform_152 ?_
          refine lv_bipush (v := 6) hx hb dX12_reform_155 (by decide +kernel) ?_
          replace hr := iteS hr
          obtain ⟨hi157, hr⟩ := hr
          refine va_iald (f := c109_F12) hx hb hK hP 4 1 rfl rfl (inbV hi157) dX12_reform_157 ?_
          replace hr := iteS hr
          obtain ⟨hi158, hr⟩ := hr
          refine va_iast (f := c109_F12) hx hb hK hP hD hS 4 1 rfl rfl (inbV hi158) dX12_reform_158 (fun H locs hP hD hS => ?_)
          obtain ⟨w158, ew158, hP, hD⟩ : ∃ w158 : Nat → Int32, w158 = (upd c109_F12 (Int32.toNatClampNeg (g 9)) (c109_F12 (Int32.toNatClampNeg 6))) ∧ va_P (dC, dI) vwCl (mW h0 kB kI kZ q (upd (upd (upd (upd (upd (upd (upd (upd g 1 0) 2 (g 1)) 3 c109_g3) 4 c109_g4) 5 c109_g5) 6 c109_g6) 7 c109_g7) 8 c109_g8) (upF (upF (upF (upF (upF (upF (upF (upF (upF (upF (upF (upF F 10 w132) 11 w145) 12 w158) 13 c109_F13) 14 c109_F14) 15 c109_F15) 16 c109_F16) 17 c109_F17) 18 c109_F18) 19 c109_F19) 20 c109_F20) 21 c109_F21)) H ∧ va_D A (mW h0 kB kI kZ q (upd (upd (upd (upd (upd (upd (upd (upd g 1 0) 2 (g 1)) 3 c109_g3) 4 c109_g4) 5 c109_g5) 6 c109_g6) 7 c109_g7) 8 c109_g8) (upF (upF (upF (upF (upF (upF (upF (upF (upF (upF (upF (upF F 10 w132) 11 w145) 12 w158) 13 c109_F13) 14 c109_F14) 15 c109_F15) 16 c109_F16) 17 c109_F17) 18 c109_F18) 19 c109_F19) 20 c109_F20) 21 c109_F21)) := ⟨(upd c109_F12 (Int32.toNatClampNeg (g 9)) (c109_F12 (Int32.toNatClampNeg 6))), rfl, by first | exact sP_F12 hP (upF_in (by decide) (upF_in (by decide) (upF_in (by decide) (upF_in (by decide) (upF_in (by decide) (upF_in (by decide) (upF_in (by decide) (upF_in (by decide) (upF_in (by decide) upF_same))))))))) | exact sP_F12 hP (upF_in (by decide) (upF_in (by decide) (upF_in (by decide) (upF_in (by decide) (upF_in (by decide) (upF_in (by decide) (upF_in (by decide) (upF_in (by decide) (upF_in (by decide) rfl))))))))) | exact hP, by first | exact sD_F12 hD (upF_in (by decide) (upF_in (by decide) (upF_in (by decide) (upF_in (by decide) (upF_in (by decide) (upF_in (by decide) (upF_in (by decide) (upF_in (by decide) (upF_in (by decide) upF_same))))))))) | exact sD_F12 hD (upF_in (by decide) (upF_in (by decide) (upF_in (by decide) (upF_in (by decide) (upF_in (by decide) (upF_in (by decide) (upF_in (by decide) (upF_in (by decide) (upF_in (by decide) rfl))))))))) | exact hD⟩
          replace hr := vlS hr w158 ew158
          clear ew158
          refine lv_aload_n hx hb dX12_reform_159 rfl (lv_at hl 1 rfl) ?_
          refine va_get (D := (dC, dI)) (ci := 12) (v := .ref (q 13)) (C := RX12) (T := TX12) (N := 71) hx hb hts inX12 hown hK hP 0 rfl rfl 13 (by decide) (hts (.fieldLink RX12 27 "SpellTurnerModel" "listed" "[I") im_62) (fun _ h9 => h9) rfl dX12_reform_160 ?_
          refine lv_iload_n hx hb dX12_reform_163 rfl (lv_at hl 0 rfl) ?_
          refine lv_aload_n hx hb dX12_reform_164 rfl (lv_at hl 1 rfl) ?_
          refine va_get (D := (dC, dI)) (ci := 12) (v := .ref (q 13)) (C := RX12) (T := TX12) (N := 71) hx hb hts inX12 hown hK hP 0 rfl rfl 13 (by decide) (hts (.fieldLink RX12 27 "SpellTurnerModel" "listed" "[I") im_62) (fun _ h9 => h9) rfl dX12_reform_165 ?_
          refine lv_bipush (v := 6) hx hb dX12_reform_168 (by decide +kernel) ?_
          replace hr := iteS hr
          obtain ⟨hi170, hr⟩ := hr
          refine va_iald (f := c109_F13) hx hb hK hP 5 1 rfl rfl (inbV hi170) dX12_reform_170 ?_
          replace hr := iteS hr
          obtain ⟨hi171, hr⟩ := hr
          refine va_iast (f := c109_F13) hx hb hK hP hD hS 5 1 rfl rfl (inbV hi171) dX12_reform_171 (fun H locs hP hD hS => ?_)
          obtain ⟨w171, ew171, hP, hD⟩ : ∃ w171 : Nat → Int32, w171 = (upd c109_F13 (Int32.toNatClampNeg (g 9)) (c109_F13 (Int32.toNatClampNeg 6))) ∧ va_P (dC, dI) vwCl (mW h0 kB kI kZ q (upd (upd (upd (upd (upd (upd (upd (upd g 1 0) 2 (g 1)) 3 c109_g3) 4 c109_g4) 5 c109_g5) 6 c109_g6) 7 c109_g7) 8 c109_g8) (upF (upF (upF (upF (upF (upF (upF (upF (upF (upF (upF (upF F 10 w132) 11 w145) 12 w158) 13 w171) 14 c109_F14) 15 c109_F15) 16 c109_F16) 17 c109_F17) 18 c109_F18) 19 c109_F19) 20 c109_F20) 21 c109_F21)) H ∧ va_D A (mW h0 kB kI kZ q (upd (upd (upd (upd (upd (upd (upd (upd g 1 0) 2 (g 1)) 3 c109_g3) 4 c109_g4) 5 c109_g5) 6 c109_g6) 7 c109_g7) 8 c109_g8) (upF (upF (upF (upF (upF (upF (upF (upF (upF (upF (upF (upF F 10 w132) 11 w145) 12 w158) 13 w171) 14 c109_F14) 15 c109_F15) 16 c109_F16) 17 c109_F17) 18 c109_F18) 19 c109_F19) 20 c109_F20) 21 c109_F21)) := ⟨(upd c109_F13 (Int32.toNatClampNeg (g 9)) (c109_F13 (Int32.toNatClampNeg 6))), rfl, by first | exact sP_F13 hP (upF_in (by decide) (upF_in (by decide) (upF_in (by decide) (upF_in (by decide) (upF_in (by decide) (upF_in (by decide) (upF_in (by decide) (upF_in (by decide) upF_same)))))))) | exact sP_F13 hP (upF_in (by decide) (upF_in (by decide) (upF_in (by decide) (upF_in (by decide) (upF_in (by decide) (upF_in (by decide) (upF_in (by decide) (upF_in (by decide) rfl)))))))) | exact hP, by first | exact sD_F13 hD (upF_in (by decide) (upF_in (by decide) (upF_in (by decide) (upF_in (by decide) (upF_in (by decide) (upF_in (by decide) (upF_in (by decide) (upF_in (by decide) upF_same)))))))) | exact sD_F13 hD (upF_in (by decide) (upF_in (by decide) (upF_in (by decide) (upF_in (by decide) (upF_in (by decide) (upF_in (by decide) (upF_in (by decide) (upF_in (by decide) rfl)))))))) | exact hD⟩
          replace hr := vlS hr w171 ew171
          clear ew171
          refine lv_iconst (v := 0) hx hb dX12_reform_172 (by decide +kernel) ?_
          refine lv_istore_n (lv' := [(3, .int 0), (2, .int (g 9)), (0, .ref h0), (1, .int p0)]) hx hb dX12_reform_173 rfl hl (by decide) rfl (fun ls hl => ?_)
          replace hr := jnS hr
          obtain ⟨k215, hk215, hr⟩ := hr
          have Jk215 : ∀ (c215_F14 : (Nat → Int32)) (c215_F15 : (Nat → Int32)) (H : Heap) (locs : List Loc) (ls : Array Slot), k215 c215_F14 c215_F15 = some (r, c_g1, c_g2, c_g3, c_g4, c_g5, c_g6, c_g7, c_g8, c_g9, c_g51, c_F10, c_F11, c_F12, c_F13, c_F14, c_F15, c_F16, c_F17, c_F18, c_F19, c_F20, c_F21) → va_P (dC, dI) vwCl (mW h0 kB kI kZ q (upd (upd (upd (upd (upd (upd (upd (upd g 1 0) 2 (g 1)) 3 c109_g3) 4 c109_g4) 5 c109_g5) 6 c109_g6) 7 c109_g7) 8 c109_g8) (upF (upF (upF (upF (upF (upF (upF (upF (upF (upF (upF (upF F 10 w132) 11 w145) 12 w158) 13 w171) 14 c215_F14) 15 c215_F15) 16 c109_F16) 17 c109_F17) 18 c109_F18) 19 c109_F19) 20 c109_F20) 21 c109_F21)) H → va_D A (mW h0 kB kI kZ q (upd (upd (upd (upd (upd (upd (upd (upd g 1 0) 2 (g 1)) 3 c109_g3) 4 c109_g4) 5 c109_g5) 6 c109_g6) 7 c109_g7) 8 c109_g8) (upF (upF (upF (upF (upF (upF (upF (upF (upF (upF (upF (upF F 10 w132) 11 w145) 12 w158) 13 w171) 14 c215_F14) 15 c215_F15) 16 c109_F16) 17 c109_F17) 18 c109_F18) 19 c109_F19) 20 c109_F20) 21 c109_F21)) → va_S A s.heap H locs → lv_has ls 4 [(0, .ref h0), (2, .int (g 9))] → W p l e ({ frames := 10, cells := 0, slots := 0, locals := 434 } : Room) s m args below meth c H locs 0 0 Q (F0 m 215 ls []) := by
            intro c215_F14 c215_F15 H locs ls hr hP hD hS hl
            rw [hk215] at hr
            refine lv_iconst (v := 0) hx hb dX12_reform_215 (by decide +kernel) ?_
            refine lv_istore_n (lv' := [(3, .int 0), (0, .ref h0), (2, .int (g 9))]) hx hb dX12_reform_216 rfl hl (by decide) rfl (fun ls hl => ?_)
            replace hr := jnS hr
            obtain ⟨k275, hk275, hr⟩ := hr
            have Jk275 : ∀ (c275_F16 : (Nat → Int32)) (c275_F17 : (Nat → Int32)) (H : Heap) (locs : List Loc) (ls : Array Slot), k275 c275_F16 c275_F17 = some (r, c_g1, c_g2, c_g3, c_g4, c_g5, c_g6, c_g7, c_g8, c_g9, c_g51, c_F10, c_F11, c_F12, c_F13, c_F14, c_F15, c_F16, c_F17, c_F18, c_F19, c_F20, c_F21) → va_P (dC, dI) vwCl (mW h0 kB kI kZ q (upd (upd (upd (upd (upd (upd (upd (upd g 1 0) 2 (g 1)) 3 c109_g3) 4 c109_g4) 5 c109_g5) 6 c109_g6) 7 c109_g7) 8 c109_g8) (upF (upF (upF (upF (upF (upF (upF (upF (upF (upF (upF (upF F 10 w132) 11 w145) 12 w158) 13 w171) 14 c215_F14) 15 c215_F15) 16 c275_F16) 17 c275_F17) 18 c109_F18) 19 c109_F19) 20 c109_F20) 21 c109_F21)) H → va_D A (mW h0 kB kI kZ q (upd (upd (upd (upd (upd (upd (upd (upd g 1 0) 2 (g 1)) 3 c109_g3) 4 c109_g4) 5 c109_g5) 6 c109_g6) 7 c109_g7) 8 c109_g8) (upF (upF (upF (upF (upF (upF (upF (upF (upF (upF (upF (upF F 10 w132) 11 w145) 12 w158) 13 w171) 14 c215_F14) 15 c215_F15) 16 c275_F16) 17 c275_F17) 18 c109_F18) 19 c109_F19) 20 c109_F20) 21 c109_F21)) → va_S A s.heap H locs → lv_has ls 4 [(0, .ref h0), (2, .int (g 9))] → W p l e ({ frames := 10, cells := 0, slots := 0, locals := 434 } : Room) s m args below meth c H locs 0 0 Q (F0 m 275 ls []) := by
              intro c275_F16 c275_F17 H locs ls hr hP hD hS hl
              rw [hk275] at hr
              refine lv_iconst (v := 0) hx hb dX12_reform_275 (by decide +kernel) ?_
              refine lv_istore_n (lv' := [(3, .int 0), (0, .ref h0), (2, .int (g 9))]) hx hb dX12_reform_276 rfl hl (by decide) rfl (fun ls hl => ?_)
              replace hr := jnS hr
              obtain ⟨k315, hk315, hr⟩ := hr
              have Jk315 : ∀ (c315_F18 : (Nat → Int32)) (c315_F19 : (Nat → Int32)) (H : Heap) (locs : List Loc) (ls : Array Slot), k315 c315_F18 c315_F19 = some (r, c_g1, c_g2, c_g3, c_g4, c_g5, c_g6, c_g7, c_g8, c_g9, c_g51, c_F10, c_F11, c_F12, c_F13, c_F14, c_F15, c_F16, c_F17, c_F18, c_F19, c_F20, c_F21) → va_P (dC, dI) vwCl (mW h0 kB kI kZ q (upd (upd (upd (upd (upd (upd (upd (upd g 1 0) 2 (g 1)) 3 c109_g3) 4 c109_g4) 5 c109_g5) 6 c109_g6) 7 c109_g7) 8 c109_g8) (upF (upF (upF (upF (upF (upF (upF (upF (upF (upF (upF (upF F 10 w132) 11 w145) 12 w158) 13 w171) 14 c215_F14) 15 c215_F15) 16 c275_F16) 17 c275_F17) 18 c315_F18) 19 c315_F19) 20 c109_F20) 21 c109_F21)) H → va_D A (mW h0 kB kI kZ q (upd (upd (upd (upd (upd (upd (upd (upd g 1 0) 2 (g 1)) 3 c109_g3) 4 c109_g4) 5 c109_g5) 6 c109_g6) 7 c109_g7) 8 c109_g8) (upF (upF (upF (upF (upF (upF (upF (upF (upF (upF (upF (upF F 10 w132) 11 w145) 12 w158) 13 w171) 14 c215_F14) 15 c215_F15) 16 c275_F16) 17 c275_F17) 18 c315_F18) 19 c315_F19) 20 c109_F20) 21 c109_F21)) → va_S A s.heap H locs → lv_has ls 4 [(0, .ref h0), (2, .int (g 9))] → W p l e ({ frames := 10, cells := 0, slots := 0, locals := 434 } : Room) s m args below meth c H locs 0 0 Q (F0 m 315 ls []) := by
                intro c315_F18 c315_F19 H locs ls hr hP hD hS hl
                rw [hk315] at hr
                refine lv_iconst (v := 0) hx hb dX12_reform_315 (by decide +kernel) ?_
                refine lv_istore_n (lv' := [(3, .int 0), (0, .ref h0), (2, .int (g 9))]) hx hb dX12_reform_316 rfl hl (by decide) rfl (fun ls hl => ?_)
                have lp317 : ∀ (n317 : Nat) (y317_3 : Int32) (d317_F20 : (Nat → Int32)) (d317_F21 : (Nat → Int32)) (H : Heap) (locs : List Loc) (ls : Array Slot), L_reform_317 g c109_g3 c109_g4 c109_g5 c109_g6 c109_g7 c109_g8 w132 w145 w158 w171 c215_F14 c215_F15 c275_F16 c275_F17 c315_F18 c315_F19 n317 y317_3 d317_F20 d317_F21 = some (r, c_g1, c_g2, c_g3, c_g4, c_g5, c_g6, c_g7, c_g8, c_g9, c_g51, c_F10, c_F11, c_F12, c_F13, c_F14, c_F15, c_F16, c_F17, c_F18, c_F19, c_F20, c_F21) → va_P (dC, dI) vwCl (mW h0 kB kI kZ q (upd (upd (upd (upd (upd (upd (upd (upd g 1 0) 2 (g 1)) 3 c109_g3) 4 c109_g4) 5 c109_g5) 6 c109_g6) 7 c109_g7) 8 c109_g8) (upF (upF (upF (upF (upF (upF (upF (upF (upF (upF (upF (upF F 10 w132) 11 w145) 12 w158) 13 w171) 14 c215_F14) 15 c215_F15) 16 c275_F16) 17 c275_F17) 18 c315_F18) 19 c315_F19) 20 d317_F20) 21 d317_F21)) H → va_D A (mW h0 kB kI kZ q (upd (upd (upd (upd (upd (upd (upd (upd g 1 0) 2 (g 1)) 3 c109_g3) 4 c109_g4) 5 c109_g5) 6 c109_g6) 7 c109_g7) 8 c109_g8) (upF (upF (upF (upF (upF (upF (upF (upF (upF (upF (upF (upF F 10 w132) 11 w145) 12 w158) 13 w171) 14 c215_F14) 15 c215_F15) 16 c275_F16) 17 c275_F17) 18 c315_F18) 19 c315_F19) 20 d317_F20) 21 d317_F21)) → va_S A s.heap H locs → lv_has ls 4 [(0, .ref h0), (2, .int (g 9)), (3, .int y317_3)] → W p l e ({ frames := 10, cells := 0, slots := 0, locals := 434 } : Room) s m args below meth c H locs 0 0 Q (F0 m 317 ls []) := by
                  intro n317
                  induction n317 with
                  | zero => intro y317_3 d317_F20 d317_F21 H locs ls hr; exact nomatch (show none = some (r, c_g1, c_g2, c_g3, c_g4, c_g5, c_g6, c_g7, c_g8, c_g9, c_g51, c_F10, c_F11, c_F12, c_F13, c_F14, c_F15, c_F16, c_F17, c_F18, c_F19, c_F20, c_F21) from hr)
                  | succ n317 ih317 =>
                    intro y317_3 d317_F20 d317_F21 H locs ls hr hP hD hS hl
                    replace hr : B_reform_317 g c109_g3 c109_g4 c109_g5 c109_g6 c109_g7 c109_g8 w132 w145 w158 w171 c215_F14 c215_F15 c275_F16 c275_F17 c315_F18 c315_F19 (L_reform_317 g c109_g3 c109_g4 c109_g5 c109_g6 c109_g7 c109_g8 w132 w145 w158 w171 c215_F14 c215_F15 c275_F16 c275_F17 c315_F18 c315_F19 n317) y317_3 d317_F20 d317_F21 = some (r, c_g1, c_g2, c_g3, c_g4, c_g5, c_g6, c_g7, c_g8, c_g9, c_g51, c_F10, c_F11, c_F12, c_F13, c_F14, c_F15, c_F16, c_F17, c_F18, c_F19, c_F20, c_F21) := hr
                    unfold B_reform_317 at hr
                    refine lv_iload_n hx hb dX12_reform_317 rfl (lv_at hl 2 rfl) ?_
                    refine lv_iconst (v := 2) hx hb dX12_reform_318 (by decide +kernel) ?_
                    refine lv_aload_n hx hb dX12_reform_319 rfl (lv_at hl 0 rfl) ?_
                    refine va_get (D := (dC, dI)) (ci := 12) (v := .ref (q 13)) (C := RX12) (T := TX12) (N := 71) hx hb hts inX12 hown hK hP 0 rfl rfl 13 (by decide) (hts (.fieldLink RX12 27 "SpellTurnerModel" "listed" "[I") im_62) (fun _ h9 => h9) rfl dX12_reform_320 ?_
                    refine lv_iload_n hx hb dX12_reform_323 rfl (lv_at hl 1 rfl) ?_
                    replace hr := iteS hr
                    obtain ⟨hi324, hr⟩ := hr
                    refine va_iald (f := w171) hx hb hK hP 5 1 rfl rfl (inbV hi324) dX12_reform_324 ?_
                    refine lv_imul hx hb dX12_reform_325 ?_
                    refine lv_icmp_ge (tgt := 357) hx hb dX12_reform_326 (by decide) (fun c326 => ?_) (fun c326 => ?_)
                    · replace hr := iteT c326 hr
                      refine lv_aload_n hx hb dX12_reform_357 rfl (lv_at hl 0 rfl) ?_
                      refine lv_dup hx hb dX12_reform_358 rfl ?_
                      refine va_get (D := (dC, dI)) (ci := 12) (v := .int (g 9)) (C := RX12) (T := TX12) (N := 71) hx hb hts inX12 hown hK hP 0 rfl rfl 9 (by decide) (hts (.fieldLink RX12 222 "SpellTurnerModel" "reforms" "I") im_40) (fun _ h9 => h9) rfl dX12_reform_359 ?_
                      refine lv_iconst (v := 1) hx hb dX12_reform_362 (by decide +kernel) ?_
                      refine lv_iadd hx hb dX12_reform_363 ?_
                      refine lv_topi (fun x364 ex364 => ?_)
                      replace hr := vlS hr x364 ex364
                      clear ex364
                      refine va_put (D := (dC, dI)) (ci := 12) (v := .int x364) (ty := .int) (C := RX12) (T := TX12) (N := 71) hx hb hts inX12 tyX12 tyX12_ok nmX12 hown hK hP hD hS 0 rfl rfl 9 (by decide) (hts (.fieldLink RX12 222 "SpellTurnerModel" "reforms" "I") im_40) (fun _ h9 => h9) rfl (by decide +kernel) rfl rfl (Nat.le_of_ble_eq_true rfl) dX12_reform_364 (fun H locs hP hD hS => ?_)
                      have hP : va_P (dC, dI) vwCl (mW h0 kB kI kZ q (upd (upd (upd (upd (upd (upd (upd (upd (upd g 1 0) 2 (g 1)) 3 c109_g3) 4 c109_g4) 5 c109_g5) 6 c109_g6) 7 c109_g7) 8 c109_g8) 9 x364) (upF (upF (upF (upF (upF (upF (upF (upF (upF (upF (upF (upF F 10 w132) 11 w145) 12 w158) 13 w171) 14 c215_F14) 15 c215_F15) 16 c275_F16) 17 c275_F17) 18 c315_F18) 19 c315_F19) 20 d317_F20) 21 d317_F21)) H := by first | exact sP_g9 hP rfl | exact sP_g9 hP upd_same | exact hP
                      have hD : va_D A (mW h0 kB kI kZ q (upd (upd (upd (upd (upd (upd (upd (upd (upd g 1 0) 2 (g 1)) 3 c109_g3) 4 c109_g4) 5 c109_g5) 6 c109_g6) 7 c109_g7) 8 c109_g8) 9 x364) (upF (upF (upF (upF (upF (upF (upF (upF (upF (upF (upF (upF F 10 w132) 11 w145) 12 w158) 13 w171) 14 c215_F14) 15 c215_F15) 16 c275_F16) 17 c275_F17) 18 c315_F18) 19 c315_F19) 20 d317_F20) 21 d317_F21)) := by first | exact sD_g9 hD rfl | exact sD_g9 hD upd_same | exact hD
                      refine lv_aload_n hx hb dX12_reform_367 rfl (lv_at hl 0 rfl) ?_
                      refine lv_iconst (v := 0) hx hb dX12_reform_368 (by decide +kernel) ?_
                      refine va_put (D := (dC, dI)) (ci := 12) (v := .int 0) (ty := .boolean) (C := RX12) (T := TX12) (N := 71) hx hb hts inX12 tyX12 tyX12_ok nmX12 hown hK hP hD hS 0 rfl rfl 51 (by decide) (hts (.fieldLink RX12 237 "SpellTurnerModel" "isMade" "Z") im_126) (fun _ h9 => h9) rfl (by decide +kernel) rfl rfl (Nat.le_of_ble_eq_true rfl) dX12_reform_369 (fun H locs hP hD hS => ?_)
                      have hP : va_P (dC, dI) vwCl (mW h0 kB kI kZ q (upd (upd (upd (upd (upd (upd (upd (upd (upd (upd g 1 0) 2 (g 1)) 3 c109_g3) 4 c109_g4) 5 c109_g5) 6 c109_g6) 7 c109_g7) 8 c109_g8) 9 x364) 51 0) (upF (upF (upF (upF (upF (upF (upF (upF (upF (upF (upF (upF F 10 w132) 11 w145) 12 w158) 13 w171) 14 c215_F14) 15 c215_F15) 16 c275_F16) 17 c275_F17) 18 c315_F18) 19 c315_F19) 20 d317_F20) 21 d317_F21)) H := by first | exact sP_g51 hP rfl | exact sP_g51 hP upd_same | exact hP
                      have hD : va_D A (mW h0 kB kI kZ q (upd (upd (upd (upd (upd (upd (upd (upd (upd (upd g 1 0) 2 (g 1)) 3 c109_g3) 4 c109_g4) 5 c109_g5) 6 c109_g6) 7 c109_g7) 8 c109_g8) 9 x364) 51 0) (upF (upF (upF (upF (upF (upF (upF (upF (upF (upF (upF (upF F 10 w132) 11 w145) 12 w158) 13 w171) 14 c215_F14) 15 c215_F15) 16 c275_F16) 17 c275_F17) 18 c315_F18) 19 c315_F19) 20 d317_F20) 21 d317_F21)) := by first | exact sD_g51 hD rfl | exact sD_g51 hD upd_same | exact hD
                      refine lv_iload_n hx hb dX12_reform_372 rfl (lv_at hl 1 rfl) ?_
                      first | exact K 373 ls _ _ _ _ _ _ _ _ _ _ _ _ _ _ _ _ _ _ _ _ _ _ _ H _ hr dX12_reform_373 (sP_eq (mW_cg (by repeat (first | with_reducible rfl | with_reducible refine upd_cg ?_ | refine Eq.trans ?_ (upd_id rfl))) (by repeat (first | with_reducible rfl | with_reducible refine upF_cg ?_ | refine Eq.trans ?_ (upF_id rfl)))) hP) (sD_eq (mW_cg (by repeat (first | with_reducible rfl | with_reducible refine upd_cg ?_ | refine Eq.trans ?_ (upd_id rfl))) (by repeat (first | with_reducible rfl | with_reducible refine upF_cg ?_ | refine Eq.trans ?_ (upF_id rfl)))) hD) hS | exact K 373 ls _ _ _ _ _ _ _ _ _ _ _ _ _ _ _ _ _ _ _ _ _ _ _ H _ hr dX12_reform_373 hP hD hS
                    · replace hr := iteF c326 hr
                      refine lv_aload_n hx hb dX12_reform_329 rfl (lv_at hl 0 rfl) ?_
                      refine va_get (D := (dC, dI)) (ci := 12) (v := .ref (q 20)) (C := RX12) (T := TX12) (N := 71) hx hb hts inX12 hown hK hP 0 rfl rfl 20 (by decide) (hts (.fieldLink RX12 49 "SpellTurnerModel" "listText" "[B") im_121) (fun _ h9 => h9) rfl dX12_reform_330 ?_
                      refine lv_aload_n hx hb dX12_reform_333 rfl (lv_at hl 0 rfl) ?_
                      refine va_get (D := (dC, dI)) (ci := 12) (v := .ref (q 21)) (C := RX12) (T := TX12) (N := 71) hx hb hts inX12 hown hK hP 0 rfl rfl 21 (by decide) (hts (.fieldLink RX12 52 "SpellTurnerModel" "listSize" "[I") im_63) (fun _ h9 => h9) rfl dX12_reform_334 ?_
                      refine lv_sipush (v := 480) hx hb dX12_reform_337 (by decide +kernel) ?_
                      refine lv_iload_n hx hb dX12_reform_340 rfl (lv_at hl 2 rfl) ?_
                      refine lv_iadd hx hb dX12_reform_341 ?_
                      refine lv_bipush (v := 80) hx hb dX12_reform_342 (by decide +kernel) ?_
                      refine lv_iload_n hx hb dX12_reform_344 rfl (lv_at hl 1 rfl) ?_
                      refine lv_imul hx hb dX12_reform_345 ?_
                      refine lv_iload_n hx hb dX12_reform_346 rfl (lv_at hl 2 rfl) ?_
                      refine lv_iadd hx hb dX12_reform_347 ?_
                      replace hr := b2S hr
                      obtain ⟨c348_F20, c348_F21, hc348, hr⟩ := hr
                      have hFc := fr_all hD hS hA
                      refine va_callv (va_runS (As := [.ref (q 20), .ref (q 21), .int (480 + y317_3), .int ((80 * (g 9)) + y317_3)]) (rest := []) ⟨hx, hb, hml, hown, hts⟩ (m_copy_20_21 l dC dI H.size h0 kB kI kZ q (upd (upd (upd (upd (upd (upd (upd (upd g 1 0) 2 (g 1)) 3 c109_g3) 4 c109_g4) 5 c109_g5) 6 c109_g6) 7 c109_g7) 8 c109_g8) (upF (upF (upF (upF (upF (upF (upF (upF (upF (upF (upF (upF F 10 w132) 11 w145) 12 w158) 13 w171) 14 c215_F14) 15 c215_F15) 16 c275_F16) 17 c275_F17) 18 c315_F18) 19 c315_F19) 20 d317_F20) 21 d317_F21) (480 + y317_3) ((80 * (g 9)) + y317_3) c348_F20 c348_F21 hc348) (va_cwS 4 hts gw_X12_copy_233 rfl rfl rfl (by decide +kernel) ⟨Nat.le_of_ble_eq_true rfl, Nat.le_of_ble_eq_true rfl⟩) ⟨fun a U g mk q => by obtain ⟨q0, q1, qP, qK, qD⟩ := q; exact ⟨q0, q1, qP, va_K.moved (u := U) (U := U.calling g mk a) (Vm.Alike.refl U.vm) qK, qD⟩, fun U hU hW => ⟨rfl, by rw [hU], by rw [hU]; exact hP, va_K.moved hW.alike hK, hD.weaken (fun _ _ _ _ => trivial)⟩⟩ rfl rfl hl.1 rfl (lv_room (Nat.le_of_ble_eq_true rfl)) dX12_reform_348 ⟨Nat.le_of_ble_eq_true rfl, Nat.le_of_ble_eq_true rfl⟩) hS (fun q _ h => hFc q h) hFc (fun u t H1 locs ht hvm hw hB hz1 hk1 hS => ?_)
                      obtain ⟨hP1, hK1, hD1⟩ := hB
                      rw [ht] at hP1
                      obtain ⟨hP, hD⟩ := jn_all (w1 := (mW h0 kB kI kZ q (upd (upd (upd (upd (upd (upd (upd (upd g 1 0) 2 (g 1)) 3 c109_g3) 4 c109_g4) 5 c109_g5) 6 c109_g6) 7 c109_g7) 8 c109_g8) (upF (upF (upF (upF (upF (upF (upF (upF (upF (upF (upF (upF F 10 w132) 11 w145) 12 w158) 13 w171) 14 c215_F14) 15 c215_F15) 16 c275_F16) 17 c275_F17) 18 c315_F18) 19 c315_F19) 20 c348_F20) 21 c348_F21))) hFc hP1 hD1
                      clear hFc hP1 hK1 hD1 hk1 hz1 ht hvm
                      generalize H1 = H at hP hS ⊢
                      have hP : va_P (dC, dI) vwCl (mW h0 kB kI kZ q (upd (upd (upd (upd (upd (upd (upd (upd g 1 0) 2 (g 1)) 3 c109_g3) 4 c109_g4) 5 c109_g5) 6 c109_g6) 7 c109_g7) 8 c109_g8) (upF (upF (upF (upF (upF (upF (upF (upF (upF (upF (upF (upF F 10 w132) 11 w145) 12 w158) 13 w171) 14 c215_F14) 15 c215_F15) 16 c275_F16) 17 c275_F17) 18 c315_F18) 19 c315_F19) 20 c348_F20) 21 c348_F21)) H := hP
                      have hD : va_D A (mW h0 kB kI kZ q (upd (upd (upd (upd (upd (upd (upd (upd g 1 0) 2 (g 1)) 3 c109_g3) 4 c109_g4) 5 c109_g5) 6 c109_g6) 7 c109_g7) 8 c109_g8) (upF (upF (upF (upF (upF (upF (upF (upF (upF (upF (upF (upF F 10 w132) 11 w145) 12 w158) 13 w171) 14 c215_F14) 15 c215_F15) 16 c275_F16) 17 c275_F17) 18 c315_F18) 19 c315_F19) 20 c348_F20) 21 c348_F21)) := hD
                      refine lv_iinc (v := (y317_3 + 1)) (lv' := [(3, .int (y317_3 + 1)), (0, .ref h0), (2, .int (g 9))]) hx hb dX12_reform_351 hl (k := 2) rfl rfl (by decide) rfl (fun ls hl => ?_)
                      refine lv_goto (tgt := 317) hx hb dX12_reform_354 (by decide) ?_
                      exact ih317 (y317_3 + 1) c348_F20 c348_F21 H _ ls hr hP hD hS (lv_sub hl [1, 2, 0] rfl)
                exact lp317 NN 0 c109_F20 c109_F21 H _ ls hr hP hD hS (lv_sub hl [1, 2, 0] rfl)
              have lp277 : ∀ (n277 : Nat) (y277_3 : Int32) (d277_F18 : (Nat → Int32)) (d277_F19 : (Nat → Int32)) (H : Heap) (locs : List Loc) (ls : Array Slot), L_reform_277 g w158 k315 n277 y277_3 d277_F18 d277_F19 = some (r, c_g1, c_g2, c_g3, c_g4, c_g5, c_g6, c_g7, c_g8, c_g9, c_g51, c_F10, c_F11, c_F12, c_F13, c_F14, c_F15, c_F16, c_F17, c_F18, c_F19, c_F20, c_F21) → va_P (dC, dI) vwCl (mW h0 kB kI kZ q (upd (upd (upd (upd (upd (upd (upd (upd g 1 0) 2 (g 1)) 3 c109_g3) 4 c109_g4) 5 c109_g5) 6 c109_g6) 7 c109_g7) 8 c109_g8) (upF (upF (upF (upF (upF (upF (upF (upF (upF (upF (upF (upF F 10 w132) 11 w145) 12 w158) 13 w171) 14 c215_F14) 15 c215_F15) 16 c275_F16) 17 c275_F17) 18 d277_F18) 19 d277_F19) 20 c109_F20) 21 c109_F21)) H → va_D A (mW h0 kB kI kZ q (upd (upd (upd (upd (upd (upd (upd (upd g 1 0) 2 (g 1)) 3 c109_g3) 4 c109_g4) 5 c109_g5) 6 c109_g6) 7 c109_g7) 8 c109_g8) (upF (upF (upF (upF (upF (upF (upF (upF (upF (upF (upF (upF F 10 w132) 11 w145) 12 w158) 13 w171) 14 c215_F14) 15 c215_F15) 16 c275_F16) 17 c275_F17) 18 d277_F18) 19 d277_F19) 20 c109_F20) 21 c109_F21)) → va_S A s.heap H locs → lv_has ls 4 [(0, .ref h0), (2, .int (g 9)), (3, .int y277_3)] → W p l e ({ frames := 10, cells := 0, slots := 0, locals := 434 } : Room) s m args below meth c H locs 0 0 Q (F0 m 277 ls []) := by
                intro n277
                induction n277 with
                | zero => intro y277_3 d277_F18 d277_F19 H locs ls hr; exact nomatch (show none = some (r, c_g1, c_g2, c_g3, c_g4, c_g5, c_g6, c_g7, c_g8, c_g9, c_g51, c_F10, c_F11, c_F12, c_F13, c_F14, c_F15, c_F16, c_F17, c_F18, c_F19, c_F20, c_F21) from hr)
                | succ n277 ih277 =>
                  intro y277_3 d277_F18 d277_F19 H locs ls hr hP hD hS hl
                  replace hr : B_reform_277 g w158 k315 (L_reform_277 g w158 k315 n277) y277_3 d277_F18 d277_F19 = some (r, c_g1, c_g2, c_g3, c_g4, c_g5, c_g6, c_g7, c_g8, c_g9, c_g51, c_F10, c_F11, c_F12, c_F13, c_F14, c_F15, c_F16, c_F17, c_F18, c_F19, c_F20, c_F21) := hr
                  unfold B_reform_277 at hr
                  refine lv_iload_n hx hb dX12_reform_277 rfl (lv_at hl 2 rfl) ?_
                  refine lv_aload_n hx hb dX12_reform_278 rfl (lv_at hl 0 rfl) ?_
                  refine va_get (D := (dC, dI)) (ci := 12) (v := .ref (q 12)) (C := RX12) (T := TX12) (N := 71) hx hb hts inX12 hown hK hP 0 rfl rfl 12 (by decide) (hts (.fieldLink RX12 24 "SpellTurnerModel" "parts" "[I") im_56) (fun _ h9 => h9) rfl dX12_reform_279 ?_
                  refine lv_iload_n hx hb dX12_reform_282 rfl (lv_at hl 1 rfl) ?_
                  replace hr := iteS hr
                  obtain ⟨hi283, hr⟩ := hr
                  refine va_iald (f := w158) hx hb hK hP 4 1 rfl rfl (inbV hi283) dX12_reform_283 ?_
                  refine lv_icmp_ge (tgt := 315) hx hb dX12_reform_284 (by decide) (fun c284 => ?_) (fun c284 => ?_)
                  · replace hr := iteT c284 hr
                    exact Jk315 d277_F18 d277_F19 H _ ls hr hP hD hS (lv_sub hl [0, 1] rfl)
                  · replace hr := iteF c284 hr
                    refine lv_aload_n hx hb dX12_reform_287 rfl (lv_at hl 0 rfl) ?_
                    refine va_get (D := (dC, dI)) (ci := 12) (v := .ref (q 18)) (C := RX12) (T := TX12) (N := 71) hx hb hts inX12 hown hK hP 0 rfl rfl 18 (by decide) (hts (.fieldLink RX12 43 "SpellTurnerModel" "partText" "[B") im_58) (fun _ h9 => h9) rfl dX12_reform_288 ?_
                    refine lv_aload_n hx hb dX12_reform_291 rfl (lv_at hl 0 rfl) ?_
                    refine va_get (D := (dC, dI)) (ci := 12) (v := .ref (q 19)) (C := RX12) (T := TX12) (N := 71) hx hb hts inX12 hown hK hP 0 rfl rfl 19 (by decide) (hts (.fieldLink RX12 46 "SpellTurnerModel" "partSize" "[I") im_57) (fun _ h9 => h9) rfl dX12_reform_292 ?_
                    refine lv_sipush (v := 240) hx hb dX12_reform_295 (by decide +kernel) ?_
                    refine lv_iload_n hx hb dX12_reform_298 rfl (lv_at hl 2 rfl) ?_
                    refine lv_iadd hx hb dX12_reform_299 ?_
                    refine lv_bipush (v := 40) hx hb dX12_reform_300 (by decide +kernel) ?_
                    refine lv_iload_n hx hb dX12_reform_302 rfl (lv_at hl 1 rfl) ?_
                    refine lv_imul hx hb dX12_reform_303 ?_
                    refine lv_iload_n hx hb dX12_reform_304 rfl (lv_at hl 2 rfl) ?_
                    refine lv_iadd hx hb dX12_reform_305 ?_
                    replace hr := b2S hr
                    obtain ⟨c306_F18, c306_F19, hc306, hr⟩ := hr
                    have hFc := fr_all hD hS hA
                    refine va_callv (va_runS (As := [.ref (q 18), .ref (q 19), .int (240 + y277_3), .int ((40 * (g 9)) + y277_3)]) (rest := []) ⟨hx, hb, hml, hown, hts⟩ (m_copy_18_19 l dC dI H.size h0 kB kI kZ q (upd (upd (upd (upd (upd (upd (upd (upd g 1 0) 2 (g 1)) 3 c109_g3) 4 c109_g4) 5 c109_g5) 6 c109_g6) 7 c109_g7) 8 c109_g8) (upF (upF (upF (upF (upF (upF (upF (upF (upF (upF (upF (upF F 10 w132) 11 w145) 12 w158) 13 w171) 14 c215_F14) 15 c215_F15) 16 c275_F16) 17 c275_F17) 18 d277_F18) 19 d277_F19) 20 c109_F20) 21 c109_F21) (240 + y277_3) ((40 * (g 9)) + y277_3) c306_F18 c306_F19 hc306) (va_cwS 4 hts gw_X12_copy_233 rfl rfl rfl (by decide +kernel) ⟨Nat.le_of_ble_eq_true rfl, Nat.le_of_ble_eq_true rfl⟩) ⟨fun a U g mk q => by obtain ⟨q0, q1, qP, qK, qD⟩ := q; exact ⟨q0, q1, qP, va_K.moved (u := U) (U := U.calling g mk a) (Vm.Alike.refl U.vm) qK, qD⟩, fun U hU hW => ⟨rfl, by rw [hU], by rw [hU]; exact hP, va_K.moved hW.alike hK, hD.weaken (fun _ _ _ _ => trivial)⟩⟩ rfl rfl hl.1 rfl (lv_room (Nat.le_of_ble_eq_true rfl)) dX12_reform_306 ⟨Nat.le_of_ble_eq_true rfl, Nat.le_of_ble_eq_true rfl⟩) hS (fun q _ h => hFc q h) hFc (fun u t H1 locs ht hvm hw hB hz1 hk1 hS => ?_)
                    obtain ⟨hP1, hK1, hD1⟩ := hB
                    rw [ht] at hP1
                    obtain ⟨hP, hD⟩ := jn_all (w1 := (mW h0 kB kI kZ q (upd (upd (upd (upd (upd (upd (upd (upd g 1 0) 2 (g 1)) 3 c109_g3) 4 c109_g4) 5 c109_g5) 6 c109_g6) 7 c109_g7) 8 c109_g8) (upF (upF (upF (upF (upF (upF (upF (upF (upF (upF (upF (upF F 10 w132) 11 w145) 12 w158) 13 w171) 14 c215_F14) 15 c215_F15) 16 c275_F16) 17 c275_F17) 18 c306_F18) 19 c306_F19) 20 c109_F20) 21 c109_F21))) hFc hP1 hD1
                    clear hFc hP1 hK1 hD1 hk1 hz1 ht hvm
                    generalize H1 = H at hP hS ⊢
                    have hP : va_P (dC, dI) vwCl (mW h0 kB kI kZ q (upd (upd (upd (upd (upd (upd (upd (upd g 1 0) 2 (g 1)) 3 c109_g3) 4 c109_g4) 5 c109_g5) 6 c109_g6) 7 c109_g7) 8 c109_g8) (upF (upF (upF (upF (upF (upF (upF (upF (upF (upF (upF (upF F 10 w132) 11 w145) 12 w158) 13 w171) 14 c215_F14) 15 c215_F15) 16 c275_F16) 17 c275_F17) 18 c306_F18) 19 c306_F19) 20 c109_F20) 21 c109_F21)) H := hP
                    have hD : va_D A (mW h0 kB kI kZ q (upd (upd (upd (upd (upd (upd (upd (upd g 1 0) 2 (g 1)) 3 c109_g3) 4 c109_g4) 5 c109_g5) 6 c109_g6) 7 c109_g7) 8 c109_g8) (upF (upF (upF (upF (upF (upF (upF (upF (upF (upF (upF (upF F 10 w132) 11 w145) 12 w158) 13 w171) 14 c215_F14) 15 c215_F15) 16 c275_F16) 17 c275_F17) 18 c306_F18) 19 c306_F19) 20 c109_F20) 21 c109_F21)) := hD
                    refine lv_iinc (v := (y277_3 + 1)) (lv' := [(3, .int (y277_3 + 1)), (0, .ref h0), (2, .int (g 9))]) hx hb dX12_reform_309 hl (k := 2) rfl rfl (by decide) rfl (fun ls hl => ?_)
                    refine lv_goto (tgt := 277) hx hb dX12_reform_312 (by decide) ?_
                    exact ih277 (y277_3 + 1) c306_F18 c306_F19 H _ ls hr hP hD hS (lv_sub hl [1, 2, 0] rfl)
              exact lp277 NN 0 c109_F18 c109_F19 H _ ls hr hP hD hS (lv_sub hl [1, 2, 0] rfl)
            have lp217 : ∀ (n217 : Nat) (y217_3 : Int32) (d217_F16 : (Nat → Int32)) (d217_F17 : (Nat → Int32)) (H : Heap) (locs : List Loc) (ls : Array Slot), L_reform_217 g w145 k275 n217 y217_3 d217_F16 d217_F17 = some (r, c_g1, c_g2, c_g3, c_g4, c_g5, c_g6, c_g7, c_g8, c_g9, c_g51, c_F10, c_F11, c_F12, c_F13, c_F14, c_F15, c_F16, c_F17, c_F18, c_F19, c_F20, c_F21) → va_P (dC, dI) vwCl (mW h0 kB kI kZ q (upd (upd (upd (upd (upd (upd (upd (upd g 1 0) 2 (g 1)) 3 c109_g3) 4 c109_g4) 5 c109_g5) 6 c109_g6) 7 c109_g7) 8 c109_g8) (upF (upF (upF (upF (upF (upF (upF (upF (upF (upF (upF (upF F 10 w132) 11 w145) 12 w158) 13 w171) 14 c215_F14) 15 c215_F15) 16 d217_F16) 17 d217_F17) 18 c109_F18) 19 c109_F19) 20 c109_F20) 21 c109_F21)) H → va_D A (mW h0 kB kI kZ q (upd (upd (upd (upd (upd (upd (upd (upd g 1 0) 2 (g 1)) 3 c109_g3) 4 c109_g4) 5 c109_g5) 6 c109_g6) 7 c109_g7) 8 c109_g8) (upF (upF (upF (upF (upF (upF (upF (upF (upF (upF (upF (upF F 10 w132) 11 w145) 12 w158) 13 w171) 14 c215_F14) 15 c215_F15) 16 d217_F16) 17 d217_F17) 18 c109_F18) 19 c109_F19) 20 c109_F20) 21 c109_F21)) → va_S A s.heap H locs → lv_has ls 4 [(0, .ref h0), (2, .int (g 9)), (3, .int y217_3)] → W p l e ({ frames := 10, cells := 0, slots := 0, locals := 434 } : Room) s m args below meth c H locs 0 0 Q (F0 m 217 ls []) := by
              intro n217
              induction n217 with
              | zero => intro y217_3 d217_F16 d217_F17 H locs ls hr; exact nomatch (show none = some (r, c_g1, c_g2, c_g3, c_g4, c_g5, c_g6, c_g7, c_g8, c_g9, c_g51, c_F10, c_F11, c_F12, c_F13, c_F14, c_F15, c_F16, c_F17, c_F18, c_F19, c_F20, c_F21) from hr)
              | succ n217 ih217 =>
                intro y217_3 d217_F16 d217_F17 H locs ls hr hP hD hS hl
                replace hr : B_reform_217 g w145 k275 (L_reform_217 g w145 k275 n217) y217_3 d217_F16 d217_F17 = some (r, c_g1, c_g2, c_g3, c_g4, c_g5, c_g6, c_g7, c_g8, c_g9, c_g51, c_F10, c_F11, c_F12, c_F13, c_F14, c_F15, c_F16, c_F17, c_F18, c_F19, c_F20, c_F21) := hr
                unfold B_reform_217 at hr
                refine lv_iload_n hx hb dX12_reform_217 rfl (lv_at hl 2 rfl) ?_
                refine lv_aload_n hx hb dX12_reform_218 rfl (lv_at hl 0 rfl) ?_
                refine va_get (D := (dC, dI)) (ci := 12) (v := .ref (q 11)) (C := RX12) (T := TX12) (N := 71) hx hb hts inX12 hown hK hP 0 rfl rfl 11 (by decide) (hts (.fieldLink RX12 21 "SpellTurnerModel" "laws" "[I") im_61) (fun _ h9 => h9) rfl dX12_reform_219 ?_
                refine lv_iload_n hx hb dX12_reform_222 rfl (lv_at hl 1 rfl) ?_
                replace hr := iteS hr
                obtain ⟨hi223, hr⟩ := hr
                refine va_iald (f := w145) hx hb hK hP 3 1 rfl rfl (inbV hi223) dX12_reform_223 ?_
                refine lv_icmp_ge (tgt := 275) hx hb dX12_reform_224 (by decide) (fun c224 => ?_) (fun c224 => ?_)
                · replace hr := iteT c224 hr
                  exact Jk275 d217_F16 d217_F17 H _ ls hr hP hD hS (lv_sub hl [0, 1] rfl)
                · replace hr := iteF c224 hr
                  refine lv_aload_n hx hb dX12_reform_227 rfl (lv_at hl 0 rfl) ?_
                  refine va_get (D := (dC, dI)) (ci := 12) (v := .ref (q 16)) (C := RX12) (T := TX12) (N := 71) hx hb hts inX12 hown hK hP 0 rfl rfl 16 (by decide) (hts (.fieldLink RX12 36 "SpellTurnerModel" "atStart" "[Z") im_155) (fun _ h9 => h9) rfl dX12_reform_228 ?_
                  refine lv_bipush (v := 40) hx hb dX12_reform_231 (by decide +kernel) ?_
                  refine lv_iload_n hx hb dX12_reform_233 rfl (lv_at hl 1 rfl) ?_
                  refine lv_imul hx hb dX12_reform_234 ?_
                  refine lv_iload_n hx hb dX12_reform_235 rfl (lv_at hl 2 rfl) ?_
                  refine lv_iadd hx hb dX12_reform_236 ?_
                  refine lv_aload_n hx hb dX12_reform_237 rfl (lv_at hl 0 rfl) ?_
                  refine va_get (D := (dC, dI)) (ci := 12) (v := .ref (q 16)) (C := RX12) (T := TX12) (N := 71) hx hb hts inX12 hown hK hP 0 rfl rfl 16 (by decide) (hts (.fieldLink RX12 36 "SpellTurnerModel" "atStart" "[Z") im_155) (fun _ h9 => h9) rfl dX12_reform_238 ?_
                  refine lv_sipush (v := 240) hx hb dX12_reform_241 (by decide +kernel) ?_
                  refine lv_iload_n hx hb dX12_reform_244 rfl (lv_at hl 2 rfl) ?_
                  refine lv_iadd hx hb dX12_reform_245 ?_
                  replace hr := iteS hr
                  obtain ⟨hi246, hr⟩ := hr
                  refine va_zald (f := d217_F16) hx hb hK hP 8 2 rfl rfl (inbV hi246) dX12_reform_246 ?_
                  replace hr := iteS hr
                  obtain ⟨hi247, hr⟩ := hr
                  refine va_zast (f := d217_F16) hx hb hK hP hD hS 8 2 rfl rfl (inbV hi247) dX12_reform_247 (fun H locs hP hD hS => ?_)
                  obtain ⟨w247, ew247, hP, hD⟩ : ∃ w247 : Nat → Int32, w247 = (upd d217_F16 (Int32.toNatClampNeg ((40 * (g 9)) + y217_3)) (vp_nar .boolean (d217_F16 (Int32.toNatClampNeg (240 + y217_3))))) ∧ va_P (dC, dI) vwCl (mW h0 kB kI kZ q (upd (upd (upd (upd (upd (upd (upd (upd g 1 0) 2 (g 1)) 3 c109_g3) 4 c109_g4) 5 c109_g5) 6 c109_g6) 7 c109_g7) 8 c109_g8) (upF (upF (upF (upF (upF (upF (upF (upF (upF (upF (upF (upF F 10 w132) 11 w145) 12 w158) 13 w171) 14 c215_F14) 15 c215_F15) 16 w247) 17 d217_F17) 18 c109_F18) 19 c109_F19) 20 c109_F20) 21 c109_F21)) H ∧ va_D A (mW h0 kB kI kZ q (upd (upd (upd (upd (upd (upd (upd (upd g 1 0) 2 (g 1)) 3 c109_g3) 4 c109_g4) 5 c109_g5) 6 c109_g6) 7 c109_g7) 8 c109_g8) (upF (upF (upF (upF (upF (upF (upF (upF (upF (upF (upF (upF F 10 w132) 11 w145) 12 w158) 13 w171) 14 c215_F14) 15 c215_F15) 16 w247) 17 d217_F17) 18 c109_F18) 19 c109_F19) 20 c109_F20) 21 c109_F21)) := ⟨(upd d217_F16 (Int32.toNatClampNeg ((40 * (g 9)) + y217_3)) (vp_nar .boolean (d217_F16 (Int32.toNatClampNeg (240 + y217_3))))), rfl, by first | exact sP_F16 hP (upF_in (by decide) (upF_in (by decide) (upF_in (by decide) (upF_in (by decide) (upF_in (by decide) upF_same))))) | exact sP_F16 hP (upF_in (by decide) (upF_in (by decide) (upF_in (by decide) (upF_in (by decide) (upF_in (by decide) rfl))))) | exact hP, by first | exact sD_F16 hD (upF_in (by decide) (upF_in (by decide) (upF_in (by decide) (upF_in (by decide) (upF_in (by decide) upF_same))))) | exact sD_F16 hD (upF_in (by decide) (upF_in (by decide) (upF_in (by decide) (upF_in (by decide) (upF_in (by decide) rfl))))) | exact hD⟩
                  replace hr := vlS hr w247 ew247
                  clear ew247
                  refine lv_aload_n hx hb dX12_reform_248 rfl (lv_at hl 0 rfl) ?_
                  refine va_get (D := (dC, dI)) (ci := 12) (v := .ref (q 17)) (C := RX12) (T := TX12) (N := 71) hx hb hts inX12 hown hK hP 0 rfl rfl 17 (by decide) (hts (.fieldLink RX12 40 "SpellTurnerModel" "atEnd" "[Z") im_156) (fun _ h9 => h9) rfl dX12_reform_249 ?_
                  refine lv_bipush (v := 40) hx hb dX12_reform_252 (by decide +kernel) ?_
                  refine lv_iload_n hx hb dX12_reform_254 rfl (lv_at hl 1 rfl) ?_
                  refine lv_imul hx hb dX12_reform_255 ?_
                  refine lv_iload_n hx hb dX12_reform_256 rfl (lv_at hl 2 rfl) ?_
                  refine lv_iadd hx hb dX12_reform_257 ?_
                  refine lv_aload_n hx hb dX12_reform_258 rfl (lv_at hl 0 rfl) ?_
                  refine va_get (D := (dC, dI)) (ci := 12) (v := .ref (q 17)) (C := RX12) (T := TX12) (N := 71) hx hb hts inX12 hown hK hP 0 rfl rfl 17 (by decide) (hts (.fieldLink RX12 40 "SpellTurnerModel" "atEnd" "[Z") im_156) (fun _ h9 => h9) rfl dX12_reform_259 ?_
                  refine lv_sipush (v := 240) hx hb dX12_reform_262 (by decide +kernel) ?_
                  refine lv_iload_n hx hb dX12_reform_265 rfl (lv_at hl 2 rfl) ?_
                  refine lv_iadd hx hb dX12_reform_266 ?_
                  replace hr := iteS hr
                  obtain ⟨hi267, hr⟩ := hr
                  refine va_zald (f := d217_F17) hx hb hK hP 9 2 rfl rfl (inbV hi267) dX12_reform_267 ?_
                  replace hr := iteS hr
                  obtain ⟨hi268, hr⟩ := hr
                  refine va_zast (f := d217_F17) hx hb hK hP hD hS 9 2 rfl rfl (inbV hi268) dX12_reform_268 (fun H locs hP hD hS => ?_)
                  obtain ⟨w268, ew268, hP, hD⟩ : ∃ w268 : Nat → Int32, w268 = (upd d217_F17 (Int32.toNatClampNeg ((40 * (g 9)) + y217_3)) (vp_nar .boolean (d217_F17 (Int32.toNatClampNeg (240 + y217_3))))) ∧ va_P (dC, dI) vwCl (mW h0 kB kI kZ q (upd (upd (upd (upd (upd (upd (upd (upd g 1 0) 2 (g 1)) 3 c109_g3) 4 c109_g4) 5 c109_g5) 6 c109_g6) 7 c109_g7) 8 c109_g8) (upF (upF (upF (upF (upF (upF (upF (upF (upF (upF (upF (upF F 10 w132) 11 w145) 12 w158) 13 w171) 14 c215_F14) 15 c215_F15) 16 w247) 17 w268) 18 c109_F18) 19 c109_F19) 20 c109_F20) 21 c109_F21)) H ∧ va_D A (mW h0 kB kI kZ q (upd (upd (upd (upd (upd (upd (upd (upd g 1 0) 2 (g 1)) 3 c109_g3) 4 c109_g4) 5 c109_g5) 6 c109_g6) 7 c109_g7) 8 c109_g8) (upF (upF (upF (upF (upF (upF (upF (upF (upF (upF (upF (upF F 10 w132) 11 w145) 12 w158) 13 w171) 14 c215_F14) 15 c215_F15) 16 w247) 17 w268) 18 c109_F18) 19 c109_F19) 20 c109_F20) 21 c109_F21)) := ⟨(upd d217_F17 (Int32.toNatClampNeg ((40 * (g 9)) + y217_3)) (vp_nar .boolean (d217_F17 (Int32.toNatClampNeg (240 + y217_3))))), rfl, by first | exact sP_F17 hP (upF_in (by decide) (upF_in (by decide) (upF_in (by decide) (upF_in (by decide) upF_same)))) | exact sP_F17 hP (upF_in (by decide) (upF_in (by decide) (upF_in (by decide) (upF_in (by decide) rfl)))) | exact hP, by first | exact sD_F17 hD (upF_in (by decide) (upF_in (by decide) (upF_in (by decide) (upF_in (by decide) upF_same)))) | exact sD_F17 hD (upF_in (by decide) (upF_in (by decide) (upF_in (by decide) (upF_in (by decide) rfl)))) | exact hD⟩
                  replace hr := vlS hr w268 ew268
                  clear ew268
                  refine lv_iinc (v := (y217_3 + 1)) (lv' := [(3, .int (y217_3 + 1)), (0, .ref h0), (2, .int (g 9))]) hx hb dX12_reform_269 hl (k := 2) rfl rfl (by decide) rfl (fun ls hl => ?_)
                  refine lv_goto (tgt := 217) hx hb dX12_reform_272 (by decide) ?_
                  exact ih217 (y217_3 + 1) w247 w268 H _ ls hr hP hD hS (lv_sub hl [1, 2, 0] rfl)
            exact lp217 NN 0 c109_F16 c109_F17 H _ ls hr hP hD hS (lv_sub hl [1, 2, 0] rfl)
          have lp174 : ∀ (n174 : Nat) (y174_3 : Int32) (d174_F14 : (Nat → Int32)) (d174_F15 : (Nat → Int32)) (H : Heap) (locs : List Loc) (ls : Array Slot), L_reform_174 g w145 k215 n174 y174_3 d174_F14 d174_F15 = some (r, c_g1, c_g2, c_g3, c_g4, c_g5, c_g6, c_g7, c_g8, c_g9, c_g51, c_F10, c_F11, c_F12, c_F13, c_F14, c_F15, c_F16, c_F17, c_F18, c_F19, c_F20, c_F21) → va_P (dC, dI) vwCl (mW h0 kB kI kZ q (upd (upd (upd (upd (upd (upd (upd (upd g 1 0) 2 (g 1)) 3 c109_g3) 4 c109_g4) 5 c109_g5) 6 c109_g6) 7 c109_g7) 8 c109_g8) (upF (upF (upF (upF (upF (upF (upF (upF (upF (upF (upF (upF F 10 w132) 11 w145) 12 w158) 13 w171) 14 d174_F14) 15 d174_F15) 16 c109_F16) 17 c109_F17) 18 c109_F18) 19 c109_F19) 20 c109_F20) 21 c109_F21)) H → va_D A (mW h0 kB kI kZ q (upd (upd (upd (upd (upd (upd (upd (upd g 1 0) 2 (g 1)) 3 c109_g3) 4 c109_g4) 5 c109_g5) 6 c109_g6) 7 c109_g7) 8 c109_g8) (upF (upF (upF (upF (upF (upF (upF (upF (upF (upF (upF (upF F 10 w132) 11 w145) 12 w158) 13 w171) 14 d174_F14) 15 d174_F15) 16 c109_F16) 17 c109_F17) 18 c109_F18) 19 c109_F19) 20 c109_F20) 21 c109_F21)) → va_S A s.heap H locs → lv_has ls 4 [(0, .ref h0), (2, .int (g 9)), (3, .int y174_3)] → W p l e ({ frames := 10, cells := 0, slots := 0, locals := 434 } : Room) s m args below meth c H locs 0 0 Q (F0 m 174 ls []) := by
            intro n174
            induction n174 with
            | zero => intro y174_3 d174_F14 d174_F15 H locs ls hr; exact nomatch (show none = some (r, c_g1, c_g2, c_g3, c_g4, c_g5, c_g6, c_g7, c_g8, c_g9, c_g51, c_F10, c_F11, c_F12, c_F13, c_F14, c_F15, c_F16, c_F17, c_F18, c_F19, c_F20, c_F21) from hr)
            | succ n174 ih174 =>
              intro y174_3 d174_F14 d174_F15 H locs ls hr hP hD hS hl
              replace hr : B_reform_174 g w145 k215 (L_reform_174 g w145 k215 n174) y174_3 d174_F14 d174_F15 = some (r, c_g1, c_g2, c_g3, c_g4, c_g5, c_g6, c_g7, c_g8, c_g9, c_g51, c_F10, c_F11, c_F12, c_F13, c_F14, c_F15, c_F16, c_F17, c_F18, c_F19, c_F20, c_F21) := hr
              unfold B_reform_174 at hr
              refine lv_iload_n hx hb dX12_reform_174 rfl (lv_at hl 2 rfl) ?_
              refine lv_iconst (v := 4) hx hb dX12_reform_175 (by decide +kernel) ?_
              refine lv_aload_n hx hb dX12_reform_176 rfl (lv_at hl 0 rfl) ?_
              refine va_get (D := (dC, dI)) (ci := 12) (v := .ref (q 11)) (C := RX12) (T := TX12) (N := 71) hx hb hts inX12 hown hK hP 0 rfl rfl 11 (by decide) (hts (.fieldLink RX12 21 "SpellTurnerModel" "laws" "[I") im_61) (fun _ h9 => h9) rfl dX12_reform_177 ?_
              refine lv_iload_n hx hb dX12_reform_180 rfl (lv_at hl 1 rfl) ?_
              replace hr := iteS hr
              obtain ⟨hi181, hr⟩ := hr
              refine va_iald (f := w145) hx hb hK hP 3 1 rfl rfl (inbV hi181) dX12_reform_181 ?_
              refine lv_imul hx hb dX12_reform_182 ?_
              refine lv_icmp_ge (tgt := 215) hx hb dX12_reform_183 (by decide) (fun c183 => ?_) (fun c183 => ?_)
              · replace hr := iteT c183 hr
                exact Jk215 d174_F14 d174_F15 H _ ls hr hP hD hS (lv_sub hl [0, 1] rfl)
              · replace hr := iteF c183 hr
                refine lv_aload_n hx hb dX12_reform_186 rfl (lv_at hl 0 rfl) ?_
                refine va_get (D := (dC, dI)) (ci := 12) (v := .ref (q 14)) (C := RX12) (T := TX12) (N := 71) hx hb hts inX12 hown hK hP 0 rfl rfl 14 (by decide) (hts (.fieldLink RX12 30 "SpellTurnerModel" "lawText" "[B") im_72) (fun _ h9 => h9) rfl dX12_reform_187 ?_
                refine lv_aload_n hx hb dX12_reform_190 rfl (lv_at hl 0 rfl) ?_
                refine va_get (D := (dC, dI)) (ci := 12) (v := .ref (q 15)) (C := RX12) (T := TX12) (N := 71) hx hb hts inX12 hown hK hP 0 rfl rfl 15 (by decide) (hts (.fieldLink RX12 33 "SpellTurnerModel" "lawSize" "[I") im_71) (fun _ h9 => h9) rfl dX12_reform_191 ?_
                refine lv_sipush (v := 960) hx hb dX12_reform_194 (by decide +kernel) ?_
                refine lv_iload_n hx hb dX12_reform_197 rfl (lv_at hl 2 rfl) ?_
                refine lv_iadd hx hb dX12_reform_198 ?_
                refine lv_sipush (v := 160) hx hb dX12_reform_199 (by decide +kernel) ?_
                refine lv_iload_n hx hb dX12_reform_202 rfl (lv_at hl 1 rfl) ?_
                refine lv_imul hx hb dX12_reform_203 ?_
                refine lv_iload_n hx hb dX12_reform_204 rfl (lv_at hl 2 rfl) ?_
                refine lv_iadd hx hb dX12_reform_205 ?_
                replace hr := b2S hr
                obtain ⟨c206_F14, c206_F15, hc206, hr⟩ := hr
                have hFc := fr_all hD hS hA
                refine va_callv (va_runS (As := [.ref (q 14), .ref (q 15), .int (960 + y174_3), .int ((160 * (g 9)) + y174_3)]) (rest := []) ⟨hx, hb, hml, hown, hts⟩ (m_copy_14_15 l dC dI H.size h0 kB kI kZ q (upd (upd (upd (upd (upd (upd (upd (upd g 1 0) 2 (g 1)) 3 c109_g3) 4 c109_g4) 5 c109_g5) 6 c109_g6) 7 c109_g7) 8 c109_g8) (upF (upF (upF (upF (upF (upF (upF (upF (upF (upF (upF (upF F 10 w132) 11 w145) 12 w158) 13 w171) 14 d174_F14) 15 d174_F15) 16 c109_F16) 17 c109_F17) 18 c109_F18) 19 c109_F19) 20 c109_F20) 21 c109_F21) (960 + y174_3) ((160 * (g 9)) + y174_3) c206_F14 c206_F15 hc206) (va_cwS 4 hts gw_X12_copy_233 rfl rfl rfl (by decide +kernel) ⟨Nat.le_of_ble_eq_true rfl, Nat.le_of_ble_eq_true rfl⟩) ⟨fun a U g mk q => by obtain ⟨q0, q1, qP, qK, qD⟩ := q; exact ⟨q0, q1, qP, va_K.moved (u := U) (U := U.calling g mk a) (Vm.Alike.refl U.vm) qK, qD⟩, fun U hU hW => ⟨rfl, by rw [hU], by rw [hU]; exact hP, va_K.moved hW.alike hK, hD.weaken (fun _ _ _ _ => trivial)⟩⟩ rfl rfl hl.1 rfl (lv_room (Nat.le_of_ble_eq_true rfl)) dX12_reform_206 ⟨Nat.le_of_ble_eq_true rfl, Nat.le_of_ble_eq_true rfl⟩) hS (fun q _ h => hFc q h) hFc (fun u t H1 locs ht hvm hw hB hz1 hk1 hS => ?_)
                obtain ⟨hP1, hK1, hD1⟩ := hB
                rw [ht] at hP1
                obtain ⟨hP, hD⟩ := jn_all (w1 := (mW h0 kB kI kZ q (upd (upd (upd (upd (upd (upd (upd (upd g 1 0) 2 (g 1)) 3 c109_g3) 4 c109_g4) 5 c109_g5) 6 c109_g6) 7 c109_g7) 8 c109_g8) (upF (upF (upF (upF (upF (upF (upF (upF (upF (upF (upF (upF F 10 w132) 11 w145) 12 w158) 13 w171) 14 c206_F14) 15 c206_F15) 16 c109_F16) 17 c109_F17) 18 c109_F18) 19 c109_F19) 20 c109_F20) 21 c109_F21))) hFc hP1 hD1
                clear hFc hP1 hK1 hD1 hk1 hz1 ht hvm
                generalize H1 = H at hP hS ⊢
                have hP : va_P (dC, dI) vwCl (mW h0 kB kI kZ q (upd (upd (upd (upd (upd (upd (upd (upd g 1 0) 2 (g 1)) 3 c109_g3) 4 c109_g4) 5 c109_g5) 6 c109_g6) 7 c109_g7) 8 c109_g8) (upF (upF (upF (upF (upF (upF (upF (upF (upF (upF (upF (upF F 10 w132) 11 w145) 12 w158) 13 w171) 14 c206_F14) 15 c206_F15) 16 c109_F16) 17 c109_F17) 18 c109_F18) 19 c109_F19) 20 c109_F20) 21 c109_F21)) H := hP
                have hD : va_D A (mW h0 kB kI kZ q (upd (upd (upd (upd (upd (upd (upd (upd g 1 0) 2 (g 1)) 3 c109_g3) 4 c109_g4) 5 c109_g5) 6 c109_g6) 7 c109_g7) 8 c109_g8) (upF (upF (upF (upF (upF (upF (upF (upF (upF (upF (upF (upF F 10 w132) 11 w145) 12 w158) 13 w171) 14 c206_F14) 15 c206_F15) 16 c109_F16) 17 c109_F17) 18 c109_F18) 19 c109_F19) 20 c109_F20) 21 c109_F21)) := hD
                refine lv_iinc (v := (y174_3 + 1)) (lv' := [(3, .int (y174_3 + 1)), (0, .ref h0), (2, .int (g 9))]) hx hb dX12_reform_209 hl (k := 2) rfl rfl (by decide) rfl (fun ls hl => ?_)
                refine lv_goto (tgt := 174) hx hb dX12_reform_212 (by decide) ?_
                exact ih174 (y174_3 + 1) c206_F14 c206_F15 H _ ls hr hP hD hS (lv_sub hl [1, 2, 0] rfl)
          exact lp174 NN 0 c109_F14 c109_F15 H _ ls hr hP hD hS (lv_sub hl [2, 1, 0] rfl)
        · replace hr := iteT c115 hr
          refine lv_bipush (v := (-3)) hx hb dX12_reform_118 (by decide +kernel) ?_
          first | exact K 120 ls _ _ _ _ _ _ _ _ _ _ _ _ _ _ _ _ _ _ _ _ _ _ _ H _ hr dX12_reform_120 (sP_eq (mW_cg (by repeat (first | with_reducible rfl | with_reducible refine upd_cg ?_ | refine Eq.trans ?_ (upd_id rfl))) (by repeat (first | with_reducible rfl | with_reducible refine upF_cg ?_ | refine Eq.trans ?_ (upF_id rfl)))) hP) (sD_eq (mW_cg (by repeat (first | with_reducible rfl | with_reducible refine upd_cg ?_ | refine Eq.trans ?_ (upd_id rfl))) (by repeat (first | with_reducible rfl | with_reducible refine upF_cg ?_ | refine Eq.trans ?_ (upF_id rfl)))) hD) hS | exact K 120 ls _ _ _ _ _ _ _ _ _ _ _ _ _ _ _ _ _ _ _ _ _ _ _ H _ hr dX12_reform_120 hP hD hS
      have lp92 : ∀ (n92 : Nat) (d92_g3 : Int32) (d92_g4 : Int32) (d92_g5 : Int32) (d92_g6 : Int32) (d92_g7 : Int32) (d92_g8 : Int32) (d92_F11 : (Nat → Int32)) (d92_F12 : (Nat → Int32)) (d92_F13 : (Nat → Int32)) (d92_F14 : (Nat → Int32)) (d92_F15 : (Nat → Int32)) (d92_F16 : (Nat → Int32)) (d92_F17 : (Nat → Int32)) (d92_F18 : (Nat → Int32)) (d92_F19 : (Nat → Int32)) (d92_F20 : (Nat → Int32)) (d92_F21 : (Nat → Int32)) (H : Heap) (locs : List Loc) (ls : Array Slot), L_reform_92 g F k109 n92 d92_g3 d92_g4 d92_g5 d92_g6 d92_g7 d92_g8 d92_F11 d92_F12 d92_F13 d92_F14 d92_F15 d92_F16 d92_F17 d92_F18 d92_F19 d92_F20 d92_F21 = some (r, c_g1, c_g2, c_g3, c_g4, c_g5, c_g6, c_g7, c_g8, c_g9, c_g51, c_F10, c_F11, c_F12, c_F13, c_F14, c_F15, c_F16, c_F17, c_F18, c_F19, c_F20, c_F21) → va_P (dC, dI) vwCl (mW h0 kB kI kZ q (upd (upd (upd (upd (upd (upd (upd (upd g 1 0) 2 (g 1)) 3 d92_g3) 4 d92_g4) 5 d92_g5) 6 d92_g6) 7 d92_g7) 8 d92_g8) (upF (upF (upF (upF (upF (upF (upF (upF (upF (upF (upF F 11 d92_F11) 12 d92_F12) 13 d92_F13) 14 d92_F14) 15 d92_F15) 16 d92_F16) 17 d92_F17) 18 d92_F18) 19 d92_F19) 20 d92_F20) 21 d92_F21)) H → va_D A (mW h0 kB kI kZ q (upd (upd (upd (upd (upd (upd (upd (upd g 1 0) 2 (g 1)) 3 d92_g3) 4 d92_g4) 5 d92_g5) 6 d92_g6) 7 d92_g7) 8 d92_g8) (upF (upF (upF (upF (upF (upF (upF (upF (upF (upF (upF F 11 d92_F11) 12 d92_F12) 13 d92_F13) 14 d92_F14) 15 d92_F15) 16 d92_F16) 17 d92_F17) 18 d92_F18) 19 d92_F19) 20 d92_F20) 21 d92_F21)) → va_S A s.heap H locs → lv_has ls 4 [(0, .ref h0), (1, .int p0)] → W p l e ({ frames := 10, cells := 0, slots := 0, locals := 434 } : Room) s m args below meth c H locs 0 0 Q (F0 m 92 ls []) := by
        intro n92
        induction n92 with
        | zero => intro d92_g3 d92_g4 d92_g5 d92_g6 d92_g7 d92_g8 d92_F11 d92_F12 d92_F13 d92_F14 d92_F15 d92_F16 d92_F17 d92_F18 d92_F19 d92_F20 d92_F21 H locs ls hr; exact nomatch (show none = some (r, c_g1, c_g2, c_g3, c_g4, c_g5, c_g6, c_g7, c_g8, c_g9, c_g51, c_F10, c_F11, c_F12, c_F13, c_F14, c_F15, c_F16, c_F17, c_F18, c_F19, c_F20, c_F21) from hr)
        | succ n92 ih92 =>
          intro d92_g3 d92_g4 d92_g5 d92_g6 d92_g7 d92_g8 d92_F11 d92_F12 d92_F13 d92_F14 d92_F15 d92_F16 d92_F17 d92_F18 d92_F19 d92_F20 d92_F21 H locs ls hr hP hD hS hl
          replace hr : B_reform_92 g F k109 (L_reform_92 g F k109 n92) d92_g3 d92_g4 d92_g5 d92_g6 d92_g7 d92_g8 d92_F11 d92_F12 d92_F13 d92_F14 d92_F15 d92_F16 d92_F17 d92_F18 d92_F19 d92_F20 d92_F21 = some (r, c_g1, c_g2, c_g3, c_g4, c_g5, c_g6, c_g7, c_g8, c_g9, c_g51, c_F10, c_F11, c_F12, c_F13, c_F14, c_F15, c_F16, c_F17, c_F18, c_F19, c_F20, c_F21) := hr
          unfold B_reform_92 at hr
          refine lv_aload_n hx hb dX12_reform_92 rfl (lv_at hl 0 rfl) ?_
          refine va_get (D := (dC, dI)) (ci := 12) (v := .int d92_g3) (C := RX12) (T := TX12) (N := 71) hx hb hts inX12 hown hK hP 0 rfl rfl 3 (by decide) (hts (.fieldLink RX12 180 "SpellTurnerModel" "sort" "I") im_65) (fun _ h9 => h9) rfl dX12_reform_93 ?_
          refine lv_iconst (v := 4) hx hb dX12_reform_96 (by decide +kernel) ?_
          refine lv_icmp_eq (tgt := 109) hx hb dX12_reform_97 (by decide) (fun c97 => ?_) (fun c97 => ?_)
          · replace hr := iteT c97 hr
            exact Jk109 d92_g3 d92_g4 d92_g5 d92_g6 d92_g7 d92_g8 d92_F11 d92_F12 d92_F13 d92_F14 d92_F15 d92_F16 d92_F17 d92_F18 d92_F19 d92_F20 d92_F21 H _ ls hr hP hD hS (lv_sub hl [0, 1] rfl)
          · replace hr := iteF c97 hr
            refine lv_aload_n hx hb dX12_reform_100 rfl (lv_at hl 0 rfl) ?_
            replace hr := b18S hr
            obtain ⟨r101z, c101_g3, c101_g4, c101_g5, c101_g6, c101_g7, c101_g8, c101_F11, c101_F12, c101_F13, c101_F14, c101_F15, c101_F16, c101_F17, c101_F18, c101_F19, c101_F20, c101_F21, hc101, hr⟩ := hr
            have hFc := fr_all hD hS hA
            refine va_calli (va_runV (As := []) (rest := []) ⟨hx, hb, hml, hown, hts⟩ (m_readItem l dC dI adK adV H.size h0 kB kI kZ q (upd (upd (upd (upd (upd (upd (upd (upd g 1 0) 2 (g 1)) 3 d92_g3) 4 d92_g4) 5 d92_g5) 6 d92_g6) 7 d92_g7) 8 d92_g8) (upF (upF (upF (upF (upF (upF (upF (upF (upF (upF (upF F 11 d92_F11) 12 d92_F12) 13 d92_F13) 14 d92_F14) 15 d92_F15) 16 d92_F16) 17 d92_F17) 18 d92_F18) 19 d92_F19) 20 d92_F20) 21 d92_F21) r101z c101_g3 c101_g4 c101_g5 c101_g6 c101_g7 c101_g8 c101_F11 c101_F12 c101_F13 c101_F14 c101_F15 c101_F16 c101_F17 c101_F18 c101_F19 c101_F20 c101_F21 hc101) (cwV 0 hts gw_X12_readItem_230 rfl rfl rfl (by decide +kernel) ⟨Nat.le_of_ble_eq_true rfl, Nat.le_of_ble_eq_true rfl⟩) ⟨fun a U g mk q => by obtain ⟨q0, q1, qP, qK, qD, qS⟩ := q; exact ⟨q0, q1, qP, va_K.moved (u := U) (U := U.calling g mk a) (Vm.Alike.refl U.vm) qK, qD, qS.calling⟩, va_recv hK hP (ci := 12) (q0 := 0) rfl rfl, fun U hU hW => ⟨rfl, by rw [hU], by rw [hU]; exact hP, va_K.moved hW.alike hK, hD.weaken (fun _ _ _ _ => trivial), (hSE.warm hS hU hW).narrow hFc⟩⟩ rfl rfl hl.1 rfl (lv_room (Nat.le_of_ble_eq_true rfl)) dX12_reform_101 ⟨Nat.le_of_ble_eq_true rfl, Nat.le_of_ble_eq_true rfl⟩) hS (fun q _ h => hFc q h) hFc (fun r101 u t H1 locs ht hvm hw hB hz1 hk1 hS => ?_)
            replace hw : r101 = r101z := hw
            subst hw
            obtain ⟨hP1, hK1, hD1⟩ := hB
            rw [ht] at hP1
            obtain ⟨hP, hD⟩ := jn_all (w1 := (mW h0 kB kI kZ q (upd (upd (upd (upd (upd (upd (upd (upd g 1 0) 2 (g 1)) 3 c101_g3) 4 c101_g4) 5 c101_g5) 6 c101_g6) 7 c101_g7) 8 c101_g8) (upF (upF (upF (upF (upF (upF (upF (upF (upF (upF (upF F 11 c101_F11) 12 c101_F12) 13 c101_F13) 14 c101_F14) 15 c101_F15) 16 c101_F16) 17 c101_F17) 18 c101_F18) 19 c101_F19) 20 c101_F20) 21 c101_F21))) hFc hP1 hD1
            clear hFc hP1 hK1 hD1 hk1 hz1 ht hvm
            generalize H1 = H at hP hS ⊢
            have hP : va_P (dC, dI) vwCl (mW h0 kB kI kZ q (upd (upd (upd (upd (upd (upd (upd (upd g 1 0) 2 (g 1)) 3 c101_g3) 4 c101_g4) 5 c101_g5) 6 c101_g6) 7 c101_g7) 8 c101_g8) (upF (upF (upF (upF (upF (upF (upF (upF (upF (upF (upF F 11 c101_F11) 12 c101_F12) 13 c101_F13) 14 c101_F14) 15 c101_F15) 16 c101_F16) 17 c101_F17) 18 c101_F18) 19 c101_F19) 20 c101_F20) 21 c101_F21)) H := hP
            have hD : va_D A (mW h0 kB kI kZ q (upd (upd (upd (upd (upd (upd (upd (upd g 1 0) 2 (g 1)) 3 c101_g3) 4 c101_g4) 5 c101_g5) 6 c101_g6) 7 c101_g7) 8 c101_g8) (upF (upF (upF (upF (upF (upF (upF (upF (upF (upF (upF F 11 c101_F11) 12 c101_F12) 13 c101_F13) 14 c101_F14) 15 c101_F15) 16 c101_F16) 17 c101_F17) 18 c101_F18) 19 c101_F19) 20 c101_F20) 21 c101_F21)) := hD
            refine lv_if_ne (tgt := 92) hx hb dX12_reform_104 (by decide) (fun c104 => ?_) (fun c104 => ?_)
            · replace hr := iteF c104 hr
              exact ih92 c101_g3 c101_g4 c101_g5 c101_g6 c101_g7 c101_g8 c101_F11 c101_F12 c101_F13 c101_F14 c101_F15 c101_F16 c101_F17 c101_F18 c101_F19 c101_F20 c101_F21 H _ ls hr hP hD hS (lv_sub hl [0, 1] rfl)
            · replace hr := iteT c104 hr
              refine lv_iconst (v := (-1)) hx hb dX12_reform_107 (by decide +kernel) ?_
              first | exact K 108 ls _ _ _ _ _ _ _ _ _ _ _ _ _ _ _ _ _ _ _ _ _ _ _ H _ hr dX12_reform_108 (sP_eq (mW_cg (by repeat (first | with_reducible rfl | with_reducible refine upd_cg ?_ | refine Eq.trans ?_ (upd_id rfl))) (by repeat (first | with_reducible rfl | with_reducible refine upF_cg ?_ | refine Eq.trans ?_ (upF_id rfl)))) hP) (sD_eq (mW_cg (by repeat (first | with_reducible rfl | with_reducible refine upd_cg ?_ | refine Eq.trans ?_ (upd_id rfl))) (by repeat (first | with_reducible rfl | with_reducible refine upF_cg ?_ | refine Eq.trans ?_ (upF_id rfl)))) hD) hS | exact K 108 ls _ _ _ _ _ _ _ _ _ _ _ _ _ _ _ _ _ _ _ _ _ _ _ H _ hr dX12_reform_108 hP hD hS
      first | exact lp92 NN c89_g3 c89_g4 c89_g5 c89_g6 0 (-1) w66 w74 w82 (F 14) (F 15) (F 16) (F 17) (F 18) (F 19) (F 20) (F 21) H _ ls hr (sP_eq (mW_cg (by repeat (first | with_reducible rfl | with_reducible refine upd_cg ?_ | refine Eq.trans ?_ (upd_id rfl))) (by repeat (first | with_reducible rfl | with_reducible refine upF_cg ?_ | refine Eq.trans ?_ (upF_id rfl)))) hP) (sD_eq (mW_cg (by repeat (first | with_reducible rfl | with_reducible refine upd_cg ?_ | refine Eq.trans ?_ (upd_id rfl))) (by repeat (first | with_reducible rfl | with_reducible refine upF_cg ?_ | refine Eq.trans ?_ (upF_id rfl)))) hD) hS (lv_sub hl [0, 1] rfl) | exact lp92 NN c89_g3 c89_g4 c89_g5 c89_g6 0 (-1) w66 w74 w82 (F 14) (F 15) (F 16) (F 17) (F 18) (F 19) (F 20) (F 21) H _ ls hr hP hD hS (lv_sub hl [0, 1] rfl)
    · replace hr := iteT c43 hr
      refine lv_bipush (v := (-2)) hx hb dX12_reform_46 (by decide +kernel) ?_
      first | exact K 48 ls _ _ _ _ _ _ _ _ _ _ _ _ _ _ _ _ _ _ _ _ _ _ _ H _ hr dX12_reform_48 (sP_eq (mW_cg (by repeat (first | with_reducible rfl | with_reducible refine upd_cg ?_ | refine Eq.trans ?_ (upd_id rfl))) (by repeat (first | with_reducible rfl | with_reducible refine upF_cg ?_ | refine Eq.trans ?_ (upF_id rfl)))) hP) (sD_eq (mW_cg (by repeat (first | with_reducible rfl | with_reducible refine upd_cg ?_ | refine Eq.trans ?_ (upd_id rfl))) (by repeat (first | with_reducible rfl | with_reducible refine upF_cg ?_ | refine Eq.trans ?_ (upF_id rfl)))) hD) hS | exact K 48 ls _ _ _ _ _ _ _ _ _ _ _ _ _ _ _ _ _ _ _ _ _ _ _ H _ hr dX12_reform_48 hP hD hS
  refine lv_if_ne (tgt := 25) hx hb dX12_reform_18 (by decide) (fun c18 => ?_) (fun c18 => ?_)
  · replace hr := iteF c18 hr
    refine lv_aload_n hx hb dX12_reform_25 rfl (lv_at hl 0 rfl) ?_
    refine va_get (D := (dC, dI)) (ci := 12) (v := .ref (q 10)) (C := RX12) (T := TX12) (N := 71) hx hb hts inX12 hown hK hP 0 rfl rfl 10 (by decide) (hts (.fieldLink RX12 17 "SpellTurnerModel" "day" "[I") im_60) (fun _ h9 => h9) rfl dX12_reform_26 ?_
    refine lv_aload_n hx hb dX12_reform_29 rfl (lv_at hl 0 rfl) ?_
    refine va_get (D := (dC, dI)) (ci := 12) (v := .int (g 9)) (C := RX12) (T := TX12) (N := 71) hx hb hts inX12 hown hK hP 0 rfl rfl 9 (by decide) (hts (.fieldLink RX12 222 "SpellTurnerModel" "reforms" "I") im_40) (fun _ h9 => h9) rfl dX12_reform_30 ?_
    refine lv_iconst (v := 1) hx hb dX12_reform_33 (by decide +kernel) ?_
    refine lv_isub hx hb dX12_reform_34 ?_
    replace hr := iteS hr
    obtain ⟨hi35, hr⟩ := hr
    refine va_iald (f := (F 10)) hx hb hK hP 2 1 rfl rfl (inbV hi35) dX12_reform_35 ?_
    refine lv_iconst (v := 1) hx hb dX12_reform_36 (by decide +kernel) ?_
    refine lv_iadd hx hb dX12_reform_37 ?_
    exact Jj38 (((F 10) (Int32.toNatClampNeg ((g 9) - 1))) + 1) H _ ls hr hP hD hS (lv_sub hl [0, 1] rfl)
  · replace hr := iteT c18 hr
    refine lv_iconst (v := 0) hx hb dX12_reform_21 (by decide +kernel) ?_
    refine lv_goto (tgt := 38) hx hb dX12_reform_22 (by decide) ?_
    exact Jj38 0 H _ ls hr hP hD hS (lv_sub hl [0, 1] rfl)
set_option maxHeartbeats 4000000 in
set_option maxRecDepth 100000 in
theorem m_reform (l : Launch) (dC : Nat → ClassId) (dI : Nat → Nat → Nat) (adK adV : Nat → Nat) (sz : Nat) (h0 : Nat) (kB kI kZ : ClassId) (q : Nat → Nat) (g : Nat → Int32) (F : Nat → Nat → Int32) (p0 : Int32) (r : Int32) (c_g1 : Int32) (c_g2 : Int32) (c_g3 : Int32) (c_g4 : Int32) (c_g5 : Int32) (c_g6 : Int32) (c_g7 : Int32) (c_g8 : Int32) (c_g9 : Int32) (c_g51 : Int32) (c_F10 : (Nat → Int32)) (c_F11 : (Nat → Int32)) (c_F12 : (Nat → Int32)) (c_F13 : (Nat → Int32)) (c_F14 : (Nat → Int32)) (c_F15 : (Nat → Int32)) (c_F16 : (Nat → Int32)) (c_F17 : (Nat → Int32)) (c_F18 : (Nat → Int32)) (c_F19 : (Nat → Int32)) (c_F20 : (Nat → Int32)) (c_F21 : (Nat → Int32)) (hr : f_reform g F p0 = some (r, c_g1, c_g2, c_g3, c_g4, c_g5, c_g6, c_g7, c_g8, c_g9, c_g51, c_F10, c_F11, c_F12, c_F13, c_F14, c_F15, c_F16, c_F17, c_F18, c_F19, c_F20, c_F21)) : Met l yX12_reform vmX12_reform ({ frames := 10, cells := 0, slots := 0, locals := 434 } : Room) (va_Pc [.ref h0, .int p0] (fun U => U.heap.size = sz ∧ va_P (dC, dI) vwCl (mW h0 kB kI kZ q g F) U.heap ∧ va_K (dC, dI) vwCl (mT kB kI kZ) U ∧ va_D (fun _ => True) (mW h0 kB kI kZ q g F) ∧ SE adK adV (va_A (mW h0 kB kI kZ q g F) sz) U)) (va_Qi (fun (rz : Int32) (_ : Unit) => rz = r) (fun _ t => va_P (dC, dI) vwCl (mW h0 kB kI kZ q (upd (upd (upd (upd (upd (upd (upd (upd (upd (upd g 1 c_g1) 2 c_g2) 3 c_g3) 4 c_g4) 5 c_g5) 6 c_g6) 7 c_g7) 8 c_g8) 9 c_g9) 51 c_g51) (upF (upF (upF (upF (upF (upF (upF (upF (upF (upF (upF (upF F 10 c_F10) 11 c_F11) 12 c_F12) 13 c_F13) 14 c_F14) 15 c_F15) 16 c_F16) 17 c_F17) 18 c_F18) 19 c_F19) 20 c_F20) 21 c_F21)) t.heap ∧ va_K (dC, dI) vwCl (mT kB kI kZ) t ∧ va_D (va_A (mW h0 kB kI kZ q g F) sz) (mW h0 kB kI kZ q (upd (upd (upd (upd (upd (upd (upd (upd (upd (upd g 1 c_g1) 2 c_g2) 3 c_g3) 4 c_g4) 5 c_g5) 6 c_g6) 7 c_g7) 8 c_g8) 9 c_g9) 51 c_g51) (upF (upF (upF (upF (upF (upF (upF (upF (upF (upF (upF (upF F 10 c_F10) 11 c_F11) 12 c_F12) 13 c_F13) 14 c_F14) 15 c_F15) 16 c_F16) 17 c_F17) 18 c_F18) 19 c_F19) 20 c_F20) 21 c_F21))) (va_A (mW h0 kB kI kZ q g F) sz)) 0 0 (va_A (mW h0 kB kI kZ q g F) sz) := by
  refine Met.ofW (cc := cX12_reform) (maxL := 4) (ret := (some .int)) (by decide) rfl ?_
  intro p e s m args below meth c s₁ B hml hv
  obtain ⟨rfl, hsz, hP, hK, hD0, hSE⟩ := hv
  have hx := B.exec
  have hb := B.bytes
  have hrt := B.returns
  have hts := atoms_spec (ws := vmX12_reform) B.pre
  have hown : s.vm.findClass RX12 = some m.cls := findClass_of_methodNamed B.named
  subst hsz
  have hD := hD0.self (sz := s.heap.size)
  generalize hAe : va_A (mW h0 kB kI kZ q g F) s.heap.size = A at hD hSE ⊢
  have hA : ∀ q : Nat, s.heap.size ≤ q → A q := fun q h => by rw [← hAe]; exact Or.inr h
  have hS : va_S A s.heap s.heap [] := va_S.rf
  have hl := lv_entry ([.ref h0, .int p0]) (n := 4) (Nat.le_of_ble_eq_true rfl)
  rw [lg_entry_eq]
  generalize (lg_sl ([.ref h0, .int p0]) ++ List.replicate (4 - (lg_sl ([.ref h0, .int p0])).length) Slot.unset).toArray = ls at hl ⊢
  exact bm_reform p0 r c_g1 c_g2 c_g3 c_g4 c_g5 c_g6 c_g7 c_g8 c_g9 c_g51 c_F10 c_F11 c_F12 c_F13 c_F14 c_F15 c_F16 c_F17 c_F18 c_F19 c_F20 c_F21 hr hx hb hml hown hts hA hK hSE hP hD hS hl (fun pc ls rz c_g1z c_g2z c_g3z c_g4z c_g5z c_g6z c_g7z c_g8z c_g9z c_g51z c_F10z c_F11z c_F12z c_F13z c_F14z c_F15z c_F16z c_F17z c_F18z c_F19z c_F20z c_F21z H locs he hd hP hD hS => by cases he; exact W.iret (v := r) hx hb hrt (fun t ht hW => ⟨⟨r, (), rfl, rfl, by rw [ht]; exact hP, va_K.moved hW.alike hK, hD⟩, hS.F ht⟩) hS.2.2 hd)
