theorem gd_X12_turn_7 : decode cX12_turn 7 = .ok (.aload_n 0, 1) ∧ decode cX12_turn 8 = .ok (.iload_n 1, 1) ∧ decode cX12_turn 9 = .ok (.invokevirtual 300, 3) ∧ decode cX12_turn 12 = .ok (.ifCond .eq 16, 3) ∧ decode cX12_turn 15 = .ok (.aload_n 0, 1) ∧ decode cX12_turn 16 = .ok (.iload_n 2, 1) ∧ decode cX12_turn 17 = .ok (.invokevirtual 300, 3) ∧ decode cX12_turn 20 = .ok (.ifCond .eq 8, 3) ∧ decode cX12_turn 23 = .ok (.iload_n 1, 1) ∧ decode cX12_turn 24 = .ok (.iload_n 2, 1) := by decide +kernel
theorem dX12_turn_7 : decode cX12_turn 7 = .ok (.aload_n 0, 1) := gd_X12_turn_7.1
theorem dX12_turn_8 : decode cX12_turn 8 = .ok (.iload_n 1, 1) := gd_X12_turn_7.2.1
theorem dX12_turn_9 : decode cX12_turn 9 = .ok (.invokevirtual 300, 3) := gd_X12_turn_7.2.2.1
theorem dX12_turn_12 : decode cX12_turn 12 = .ok (.ifCond .eq 16, 3) := gd_X12_turn_7.2.2.2.1
theorem dX12_turn_15 : decode cX12_turn 15 = .ok (.aload_n 0, 1) := gd_X12_turn_7.2.2.2.2.1
theorem dX12_turn_16 : decode cX12_turn 16 = .ok (.iload_n 2, 1) := gd_X12_turn_7.2.2.2.2.2.1
theorem dX12_turn_17 : decode cX12_turn 17 = .ok (.invokevirtual 300, 3) := gd_X12_turn_7.2.2.2.2.2.2.1
theorem dX12_turn_20 : decode cX12_turn 20 = .ok (.ifCond .eq 8, 3) := gd_X12_turn_7.2.2.2.2.2.2.2.1
theorem dX12_turn_23 : decode cX12_turn 23 = .ok (.iload_n 1, 1) := gd_X12_turn_7.2.2.2.2.2.2.2.2.1
theorem dX12_turn_24 : decode cX12_turn 24 = .ok (.iload_n 2, 1) := gd_X12_turn_7.2.2.2.2.2.2.2.2.2
theorem gd_X12_turn_25 : decode cX12_turn 25 = .ok (.if_icmp .le 6, 3) ∧ decode cX12_turn 31 = .ok (.aload_n 0, 1) ∧ decode cX12_turn 32 = .ok (.iload_n 1, 1) ∧ decode cX12_turn 33 = .ok (.iload_n 2, 1) ∧ decode cX12_turn 34 = .ok (.invokevirtual 303, 3) ∧ decode cX12_turn 37 = .ok (.aload_n 0, 1) ∧ decode cX12_turn 38 = .ok (.aload_n 0, 1) ∧ decode cX12_turn 39 = .ok (.getfield 287, 3) ∧ decode cX12_turn 42 = .ok (.putfield 306, 3) ∧ decode cX12_turn 45 = .ok (.iconst 0, 1) := by decide +kernel
theorem dX12_turn_25 : decode cX12_turn 25 = .ok (.if_icmp .le 6, 3) := gd_X12_turn_25.1
theorem dX12_turn_31 : decode cX12_turn 31 = .ok (.aload_n 0, 1) := gd_X12_turn_25.2.1
theorem dX12_turn_32 : decode cX12_turn 32 = .ok (.iload_n 1, 1) := gd_X12_turn_25.2.2.1
theorem dX12_turn_33 : decode cX12_turn 33 = .ok (.iload_n 2, 1) := gd_X12_turn_25.2.2.2.1
theorem dX12_turn_34 : decode cX12_turn 34 = .ok (.invokevirtual 303, 3) := gd_X12_turn_25.2.2.2.2.1
theorem dX12_turn_37 : decode cX12_turn 37 = .ok (.aload_n 0, 1) := gd_X12_turn_25.2.2.2.2.2.1
theorem dX12_turn_38 : decode cX12_turn 38 = .ok (.aload_n 0, 1) := gd_X12_turn_25.2.2.2.2.2.2.1
theorem dX12_turn_39 : decode cX12_turn 39 = .ok (.getfield 287, 3) := gd_X12_turn_25.2.2.2.2.2.2.2.1
theorem dX12_turn_42 : decode cX12_turn 42 = .ok (.putfield 306, 3) := gd_X12_turn_25.2.2.2.2.2.2.2.2.1
theorem dX12_turn_45 : decode cX12_turn 45 = .ok (.iconst 0, 1) := gd_X12_turn_25.2.2.2.2.2.2.2.2.2
theorem gd_X12_turn_46 : decode cX12_turn 46 = .ok (.istore_n 3, 1) ∧ decode cX12_turn 47 = .ok (.iload_n 3, 1) ∧ decode cX12_turn 48 = .ok (.aload_n 0, 1) ∧ decode cX12_turn 49 = .ok (.getfield 287, 3) ∧ decode cX12_turn 52 = .ok (.if_icmp .ge 65, 3) ∧ decode cX12_turn 55 = .ok (.aload_n 0, 1) ∧ decode cX12_turn 56 = .ok (.getfield 97, 3) ∧ decode cX12_turn 59 = .ok (.iload_n 3, 1) ∧ decode cX12_turn 60 = .ok (.aload_n 0, 1) ∧ decode cX12_turn 61 = .ok (.getfield 85, 3) := by decide +kernel
theorem dX12_turn_46 : decode cX12_turn 46 = .ok (.istore_n 3, 1) := gd_X12_turn_46.1
theorem dX12_turn_47 : decode cX12_turn 47 = .ok (.iload_n 3, 1) := gd_X12_turn_46.2.1
theorem dX12_turn_48 : decode cX12_turn 48 = .ok (.aload_n 0, 1) := gd_X12_turn_46.2.2.1
theorem dX12_turn_49 : decode cX12_turn 49 = .ok (.getfield 287, 3) := gd_X12_turn_46.2.2.2.1
theorem dX12_turn_52 : decode cX12_turn 52 = .ok (.if_icmp .ge 65, 3) := gd_X12_turn_46.2.2.2.2.1
theorem dX12_turn_55 : decode cX12_turn 55 = .ok (.aload_n 0, 1) := gd_X12_turn_46.2.2.2.2.2.1
theorem dX12_turn_56 : decode cX12_turn 56 = .ok (.getfield 97, 3) := gd_X12_turn_46.2.2.2.2.2.2.1
theorem dX12_turn_59 : decode cX12_turn 59 = .ok (.iload_n 3, 1) := gd_X12_turn_46.2.2.2.2.2.2.2.1
theorem dX12_turn_60 : decode cX12_turn 60 = .ok (.aload_n 0, 1) := gd_X12_turn_46.2.2.2.2.2.2.2.2.1
theorem dX12_turn_61 : decode cX12_turn 61 = .ok (.getfield 85, 3) := gd_X12_turn_46.2.2.2.2.2.2.2.2.2
theorem gd_X12_turn_64 : decode cX12_turn 64 = .ok (.iload_n 3, 1) ∧ decode cX12_turn 65 = .ok (.iaload, 1) ∧ decode cX12_turn 66 = .ok (.iastore, 1) ∧ decode cX12_turn 67 = .ok (.iconst 0, 1) ∧ decode cX12_turn 68 = .ok (.istore 4, 2) ∧ decode cX12_turn 70 = .ok (.iload 4, 2) ∧ decode cX12_turn 72 = .ok (.aload_n 0, 1) ∧ decode cX12_turn 73 = .ok (.getfield 85, 3) ∧ decode cX12_turn 76 = .ok (.iload_n 3, 1) ∧ decode cX12_turn 77 = .ok (.iaload, 1) := by decide +kernel
theorem dX12_turn_64 : decode cX12_turn 64 = .ok (.iload_n 3, 1) := gd_X12_turn_64.1
theorem dX12_turn_65 : decode cX12_turn 65 = .ok (.iaload, 1) := gd_X12_turn_64.2.1
theorem dX12_turn_66 : decode cX12_turn 66 = .ok (.iastore, 1) := gd_X12_turn_64.2.2.1
theorem dX12_turn_67 : decode cX12_turn 67 = .ok (.iconst 0, 1) := gd_X12_turn_64.2.2.2.1
theorem dX12_turn_68 : decode cX12_turn 68 = .ok (.istore 4, 2) := gd_X12_turn_64.2.2.2.2.1
theorem dX12_turn_70 : decode cX12_turn 70 = .ok (.iload 4, 2) := gd_X12_turn_64.2.2.2.2.2.1
theorem dX12_turn_72 : decode cX12_turn 72 = .ok (.aload_n 0, 1) := gd_X12_turn_64.2.2.2.2.2.2.1
theorem dX12_turn_73 : decode cX12_turn 73 = .ok (.getfield 85, 3) := gd_X12_turn_64.2.2.2.2.2.2.2.1
theorem dX12_turn_76 : decode cX12_turn 76 = .ok (.iload_n 3, 1) := gd_X12_turn_64.2.2.2.2.2.2.2.2.1
theorem dX12_turn_77 : decode cX12_turn 77 = .ok (.iaload, 1) := gd_X12_turn_64.2.2.2.2.2.2.2.2.2
theorem gd_X12_turn_78 : decode cX12_turn 78 = .ok (.if_icmp .ge 33, 3) ∧ decode cX12_turn 81 = .ok (.aload_n 0, 1) ∧ decode cX12_turn 82 = .ok (.getfield 94, 3) ∧ decode cX12_turn 85 = .ok (.bipush 24, 2) ∧ decode cX12_turn 87 = .ok (.iload_n 3, 1) ∧ decode cX12_turn 88 = .ok (.imul, 1) ∧ decode cX12_turn 89 = .ok (.iload 4, 2) ∧ decode cX12_turn 91 = .ok (.iadd, 1) ∧ decode cX12_turn 92 = .ok (.aload_n 0, 1) ∧ decode cX12_turn 93 = .ok (.getfield 82, 3) := by decide +kernel
theorem dX12_turn_78 : decode cX12_turn 78 = .ok (.if_icmp .ge 33, 3) := gd_X12_turn_78.1
theorem dX12_turn_81 : decode cX12_turn 81 = .ok (.aload_n 0, 1) := gd_X12_turn_78.2.1
theorem dX12_turn_82 : decode cX12_turn 82 = .ok (.getfield 94, 3) := gd_X12_turn_78.2.2.1
theorem dX12_turn_85 : decode cX12_turn 85 = .ok (.bipush 24, 2) := gd_X12_turn_78.2.2.2.1
theorem dX12_turn_87 : decode cX12_turn 87 = .ok (.iload_n 3, 1) := gd_X12_turn_78.2.2.2.2.1
theorem dX12_turn_88 : decode cX12_turn 88 = .ok (.imul, 1) := gd_X12_turn_78.2.2.2.2.2.1
theorem dX12_turn_89 : decode cX12_turn 89 = .ok (.iload 4, 2) := gd_X12_turn_78.2.2.2.2.2.2.1
theorem dX12_turn_91 : decode cX12_turn 91 = .ok (.iadd, 1) := gd_X12_turn_78.2.2.2.2.2.2.2.1
theorem dX12_turn_92 : decode cX12_turn 92 = .ok (.aload_n 0, 1) := gd_X12_turn_78.2.2.2.2.2.2.2.2.1
theorem dX12_turn_93 : decode cX12_turn 93 = .ok (.getfield 82, 3) := gd_X12_turn_78.2.2.2.2.2.2.2.2.2
theorem gd_X12_turn_96 : decode cX12_turn 96 = .ok (.bipush 24, 2) ∧ decode cX12_turn 98 = .ok (.iload_n 3, 1) ∧ decode cX12_turn 99 = .ok (.imul, 1) ∧ decode cX12_turn 100 = .ok (.iload 4, 2) ∧ decode cX12_turn 102 = .ok (.iadd, 1) ∧ decode cX12_turn 103 = .ok (.baload, 1) ∧ decode cX12_turn 104 = .ok (.bastore, 1) ∧ decode cX12_turn 105 = .ok (.iinc 4 1, 3) ∧ decode cX12_turn 108 = .ok (.goto (-38), 3) ∧ decode cX12_turn 111 = .ok (.iinc 3 1, 3) := by decide +kernel
theorem dX12_turn_96 : decode cX12_turn 96 = .ok (.bipush 24, 2) := gd_X12_turn_96.1
theorem dX12_turn_98 : decode cX12_turn 98 = .ok (.iload_n 3, 1) := gd_X12_turn_96.2.1
theorem dX12_turn_99 : decode cX12_turn 99 = .ok (.imul, 1) := gd_X12_turn_96.2.2.1
theorem dX12_turn_100 : decode cX12_turn 100 = .ok (.iload 4, 2) := gd_X12_turn_96.2.2.2.1
theorem dX12_turn_102 : decode cX12_turn 102 = .ok (.iadd, 1) := gd_X12_turn_96.2.2.2.2.1
theorem dX12_turn_103 : decode cX12_turn 103 = .ok (.baload, 1) := gd_X12_turn_96.2.2.2.2.2.1
theorem dX12_turn_104 : decode cX12_turn 104 = .ok (.bastore, 1) := gd_X12_turn_96.2.2.2.2.2.2.1
theorem dX12_turn_105 : decode cX12_turn 105 = .ok (.iinc 4 1, 3) := gd_X12_turn_96.2.2.2.2.2.2.2.1
theorem dX12_turn_108 : decode cX12_turn 108 = .ok (.goto (-38), 3) := gd_X12_turn_96.2.2.2.2.2.2.2.2.1
theorem dX12_turn_111 : decode cX12_turn 111 = .ok (.iinc 3 1, 3) := gd_X12_turn_96.2.2.2.2.2.2.2.2.2
theorem gd_X12_turn_114 : decode cX12_turn 114 = .ok (.goto (-67), 3) ∧ decode cX12_turn 117 = .ok (.aload_n 0, 1) ∧ decode cX12_turn 118 = .ok (.getfield 287, 3) ∧ decode cX12_turn 121 = .ok (.ireturn, 1) ∧ decode cX12_partings 7 = .ok (.iload_n 1, 1) ∧ decode cX12_partings 8 = .ok (.iconst 0, 1) ∧ decode cX12_partings 9 = .ok (.aload_n 0, 1) ∧ decode cX12_partings 10 = .ok (.getfield 222, 3) ∧ decode cX12_partings 13 = .ok (.iconst 1, 1) ∧ decode cX12_partings 14 = .ok (.isub, 1) := by decide +kernel
theorem dX12_turn_114 : decode cX12_turn 114 = .ok (.goto (-67), 3) := gd_X12_turn_114.1
theorem dX12_turn_117 : decode cX12_turn 117 = .ok (.aload_n 0, 1) := gd_X12_turn_114.2.1
theorem dX12_turn_118 : decode cX12_turn 118 = .ok (.getfield 287, 3) := gd_X12_turn_114.2.2.1
theorem dX12_turn_121 : decode cX12_turn 121 = .ok (.ireturn, 1) := gd_X12_turn_114.2.2.2.1
theorem dX12_partings_7 : decode cX12_partings 7 = .ok (.iload_n 1, 1) := gd_X12_turn_114.2.2.2.2.1
theorem dX12_partings_8 : decode cX12_partings 8 = .ok (.iconst 0, 1) := gd_X12_turn_114.2.2.2.2.2.1
theorem dX12_partings_9 : decode cX12_partings 9 = .ok (.aload_n 0, 1) := gd_X12_turn_114.2.2.2.2.2.2.1
theorem dX12_partings_10 : decode cX12_partings 10 = .ok (.getfield 222, 3) := gd_X12_turn_114.2.2.2.2.2.2.2.1
theorem dX12_partings_13 : decode cX12_partings 13 = .ok (.iconst 1, 1) := gd_X12_turn_114.2.2.2.2.2.2.2.2.1
theorem dX12_partings_14 : decode cX12_partings 14 = .ok (.isub, 1) := gd_X12_turn_114.2.2.2.2.2.2.2.2.2
theorem gd_X12_partings_15 : decode cX12_partings 15 = .ok (.invokestatic 226, 3) ∧ decode cX12_partings 18 = .ok (.ifCond .ne 6, 3) ∧ decode cX12_partings 24 = .ok (.aload_n 0, 1) ∧ decode cX12_partings 25 = .ok (.iload_n 1, 1) ∧ decode cX12_partings 26 = .ok (.invokevirtual 277, 3) ∧ decode cX12_partings 29 = .ok (.istore_n 2, 1) ∧ decode cX12_partings 30 = .ok (.iload_n 2, 1) ∧ decode cX12_partings 31 = .ok (.iconst (-1), 1) ∧ decode cX12_partings 32 = .ok (.if_icmp .eq 25, 3) ∧ decode cX12_partings 35 = .ok (.aload_n 0, 1) := by decide +kernel
theorem dX12_partings_15 : decode cX12_partings 15 = .ok (.invokestatic 226, 3) := gd_X12_partings_15.1
theorem dX12_partings_18 : decode cX12_partings 18 = .ok (.ifCond .ne 6, 3) := gd_X12_partings_15.2.1
theorem dX12_partings_24 : decode cX12_partings 24 = .ok (.aload_n 0, 1) := gd_X12_partings_15.2.2.1
theorem dX12_partings_25 : decode cX12_partings 25 = .ok (.iload_n 1, 1) := gd_X12_partings_15.2.2.2.1
theorem dX12_partings_26 : decode cX12_partings 26 = .ok (.invokevirtual 277, 3) := gd_X12_partings_15.2.2.2.2.1
theorem dX12_partings_29 : decode cX12_partings 29 = .ok (.istore_n 2, 1) := gd_X12_partings_15.2.2.2.2.2.1
theorem dX12_partings_30 : decode cX12_partings 30 = .ok (.iload_n 2, 1) := gd_X12_partings_15.2.2.2.2.2.2.1
theorem dX12_partings_31 : decode cX12_partings 31 = .ok (.iconst (-1), 1) := gd_X12_partings_15.2.2.2.2.2.2.2.1
theorem dX12_partings_32 : decode cX12_partings 32 = .ok (.if_icmp .eq 25, 3) := gd_X12_partings_15.2.2.2.2.2.2.2.2.1
theorem dX12_partings_35 : decode cX12_partings 35 = .ok (.aload_n 0, 1) := gd_X12_partings_15.2.2.2.2.2.2.2.2.2
theorem gd_X12_partings_36 : decode cX12_partings 36 = .ok (.getfield 52, 3) ∧ decode cX12_partings 39 = .ok (.iconst 2, 1) ∧ decode cX12_partings 40 = .ok (.iload_n 2, 1) ∧ decode cX12_partings 41 = .ok (.imul, 1) ∧ decode cX12_partings 42 = .ok (.iconst 1, 1) ∧ decode cX12_partings 43 = .ok (.iadd, 1) ∧ decode cX12_partings 44 = .ok (.iaload, 1) ∧ decode cX12_partings 45 = .ok (.iconst (-1), 1) ∧ decode cX12_partings 46 = .ok (.if_icmp .ne 8, 3) ∧ decode cX12_partings 49 = .ok (.bipush (-10), 2) := by decide +kernel
theorem dX12_partings_36 : decode cX12_partings 36 = .ok (.getfield 52, 3) := gd_X12_partings_36.1
theorem dX12_partings_39 : decode cX12_partings 39 = .ok (.iconst 2, 1) := gd_X12_partings_36.2.1
theorem dX12_partings_40 : decode cX12_partings 40 = .ok (.iload_n 2, 1) := gd_X12_partings_36.2.2.1
theorem dX12_partings_41 : decode cX12_partings 41 = .ok (.imul, 1) := gd_X12_partings_36.2.2.2.1
theorem dX12_partings_42 : decode cX12_partings 42 = .ok (.iconst 1, 1) := gd_X12_partings_36.2.2.2.2.1
theorem dX12_partings_43 : decode cX12_partings 43 = .ok (.iadd, 1) := gd_X12_partings_36.2.2.2.2.2.1
theorem dX12_partings_44 : decode cX12_partings 44 = .ok (.iaload, 1) := gd_X12_partings_36.2.2.2.2.2.2.1
theorem dX12_partings_45 : decode cX12_partings 45 = .ok (.iconst (-1), 1) := gd_X12_partings_36.2.2.2.2.2.2.2.1
theorem dX12_partings_46 : decode cX12_partings 46 = .ok (.if_icmp .ne 8, 3) := gd_X12_partings_36.2.2.2.2.2.2.2.2.1
theorem dX12_partings_49 : decode cX12_partings 49 = .ok (.bipush (-10), 2) := gd_X12_partings_36.2.2.2.2.2.2.2.2.2
theorem gd_X12_partings_51 : decode cX12_partings 51 = .ok (.goto 5, 3) ∧ decode cX12_partings 54 = .ok (.bipush (-11), 2) ∧ decode cX12_partings 56 = .ok (.ireturn, 1) ∧ decode cX12_partings 57 = .ok (.aload_n 0, 1) ∧ decode cX12_partings 58 = .ok (.iload_n 1, 1) ∧ decode cX12_partings 59 = .ok (.invokevirtual 280, 3) ∧ decode cX12_partings 62 = .ok (.aload_n 0, 1) ∧ decode cX12_partings 63 = .ok (.aload_n 0, 1) ∧ decode cX12_partings 64 = .ok (.getfield 241, 3) ∧ decode cX12_partings 67 = .ok (.putfield 309, 3) := by decide +kernel
theorem dX12_partings_51 : decode cX12_partings 51 = .ok (.goto 5, 3) := gd_X12_partings_51.1
theorem dX12_partings_54 : decode cX12_partings 54 = .ok (.bipush (-11), 2) := gd_X12_partings_51.2.1
theorem dX12_partings_56 : decode cX12_partings 56 = .ok (.ireturn, 1) := gd_X12_partings_51.2.2.1
theorem dX12_partings_57 : decode cX12_partings 57 = .ok (.aload_n 0, 1) := gd_X12_partings_51.2.2.2.1
theorem dX12_partings_58 : decode cX12_partings 58 = .ok (.iload_n 1, 1) := gd_X12_partings_51.2.2.2.2.1
theorem dX12_partings_59 : decode cX12_partings 59 = .ok (.invokevirtual 280, 3) := gd_X12_partings_51.2.2.2.2.2.1
theorem dX12_partings_62 : decode cX12_partings 62 = .ok (.aload_n 0, 1) := gd_X12_partings_51.2.2.2.2.2.2.1
theorem dX12_partings_63 : decode cX12_partings 63 = .ok (.aload_n 0, 1) := gd_X12_partings_51.2.2.2.2.2.2.2.1
theorem dX12_partings_64 : decode cX12_partings 64 = .ok (.getfield 241, 3) := gd_X12_partings_51.2.2.2.2.2.2.2.2.1
theorem dX12_partings_67 : decode cX12_partings 67 = .ok (.putfield 309, 3) := gd_X12_partings_51.2.2.2.2.2.2.2.2.2
theorem gd_X12_partings_70 : decode cX12_partings 70 = .ok (.iconst 0, 1) ∧ decode cX12_partings 71 = .ok (.istore_n 3, 1) ∧ decode cX12_partings 72 = .ok (.iload_n 3, 1) ∧ decode cX12_partings 73 = .ok (.aload_n 0, 1) ∧ decode cX12_partings 74 = .ok (.getfield 241, 3) ∧ decode cX12_partings 77 = .ok (.if_icmp .ge 65, 3) ∧ decode cX12_partings 80 = .ok (.aload_n 0, 1) ∧ decode cX12_partings 81 = .ok (.getfield 103, 3) ∧ decode cX12_partings 84 = .ok (.iload_n 3, 1) ∧ decode cX12_partings 85 = .ok (.aload_n 0, 1) := by decide +kernel
theorem dX12_partings_70 : decode cX12_partings 70 = .ok (.iconst 0, 1) := gd_X12_partings_70.1
theorem dX12_partings_71 : decode cX12_partings 71 = .ok (.istore_n 3, 1) := gd_X12_partings_70.2.1
theorem dX12_partings_72 : decode cX12_partings 72 = .ok (.iload_n 3, 1) := gd_X12_partings_70.2.2.1
theorem dX12_partings_73 : decode cX12_partings 73 = .ok (.aload_n 0, 1) := gd_X12_partings_70.2.2.2.1
theorem dX12_partings_74 : decode cX12_partings 74 = .ok (.getfield 241, 3) := gd_X12_partings_70.2.2.2.2.1
theorem dX12_partings_77 : decode cX12_partings 77 = .ok (.if_icmp .ge 65, 3) := gd_X12_partings_70.2.2.2.2.2.1
theorem dX12_partings_80 : decode cX12_partings 80 = .ok (.aload_n 0, 1) := gd_X12_partings_70.2.2.2.2.2.2.1
theorem dX12_partings_81 : decode cX12_partings 81 = .ok (.getfield 103, 3) := gd_X12_partings_70.2.2.2.2.2.2.2.1
theorem dX12_partings_84 : decode cX12_partings 84 = .ok (.iload_n 3, 1) := gd_X12_partings_70.2.2.2.2.2.2.2.2.1
theorem dX12_partings_85 : decode cX12_partings 85 = .ok (.aload_n 0, 1) := gd_X12_partings_70.2.2.2.2.2.2.2.2.2
theorem gd_X12_partings_86 : decode cX12_partings 86 = .ok (.getfield 64, 3) ∧ decode cX12_partings 89 = .ok (.iload_n 3, 1) ∧ decode cX12_partings 90 = .ok (.iaload, 1) ∧ decode cX12_partings 91 = .ok (.iastore, 1) ∧ decode cX12_partings 92 = .ok (.iconst 0, 1) ∧ decode cX12_partings 93 = .ok (.istore 4, 2) ∧ decode cX12_partings 95 = .ok (.iload 4, 2) ∧ decode cX12_partings 97 = .ok (.aload_n 0, 1) ∧ decode cX12_partings 98 = .ok (.getfield 64, 3) ∧ decode cX12_partings 101 = .ok (.iload_n 3, 1) := by decide +kernel
theorem dX12_partings_86 : decode cX12_partings 86 = .ok (.getfield 64, 3) := gd_X12_partings_86.1
theorem dX12_partings_89 : decode cX12_partings 89 = .ok (.iload_n 3, 1) := gd_X12_partings_86.2.1
theorem dX12_partings_90 : decode cX12_partings 90 = .ok (.iaload, 1) := gd_X12_partings_86.2.2.1
theorem dX12_partings_91 : decode cX12_partings 91 = .ok (.iastore, 1) := gd_X12_partings_86.2.2.2.1
theorem dX12_partings_92 : decode cX12_partings 92 = .ok (.iconst 0, 1) := gd_X12_partings_86.2.2.2.2.1
theorem dX12_partings_93 : decode cX12_partings 93 = .ok (.istore 4, 2) := gd_X12_partings_86.2.2.2.2.2.1
theorem dX12_partings_95 : decode cX12_partings 95 = .ok (.iload 4, 2) := gd_X12_partings_86.2.2.2.2.2.2.1
theorem dX12_partings_97 : decode cX12_partings 97 = .ok (.aload_n 0, 1) := gd_X12_partings_86.2.2.2.2.2.2.2.1
theorem dX12_partings_98 : decode cX12_partings 98 = .ok (.getfield 64, 3) := gd_X12_partings_86.2.2.2.2.2.2.2.2.1
theorem dX12_partings_101 : decode cX12_partings 101 = .ok (.iload_n 3, 1) := gd_X12_partings_86.2.2.2.2.2.2.2.2.2
theorem gd_X12_partings_102 : decode cX12_partings 102 = .ok (.iaload, 1) ∧ decode cX12_partings 103 = .ok (.if_icmp .ge 33, 3) ∧ decode cX12_partings 106 = .ok (.aload_n 0, 1) ∧ decode cX12_partings 107 = .ok (.getfield 100, 3) ∧ decode cX12_partings 110 = .ok (.bipush 24, 2) ∧ decode cX12_partings 112 = .ok (.iload_n 3, 1) ∧ decode cX12_partings 113 = .ok (.imul, 1) ∧ decode cX12_partings 114 = .ok (.iload 4, 2) ∧ decode cX12_partings 116 = .ok (.iadd, 1) ∧ decode cX12_partings 117 = .ok (.aload_n 0, 1) := by decide +kernel
theorem dX12_partings_102 : decode cX12_partings 102 = .ok (.iaload, 1) := gd_X12_partings_102.1
theorem dX12_partings_103 : decode cX12_partings 103 = .ok (.if_icmp .ge 33, 3) := gd_X12_partings_102.2.1
theorem dX12_partings_106 : decode cX12_partings 106 = .ok (.aload_n 0, 1) := gd_X12_partings_102.2.2.1
theorem dX12_partings_107 : decode cX12_partings 107 = .ok (.getfield 100, 3) := gd_X12_partings_102.2.2.2.1
theorem dX12_partings_110 : decode cX12_partings 110 = .ok (.bipush 24, 2) := gd_X12_partings_102.2.2.2.2.1
theorem dX12_partings_112 : decode cX12_partings 112 = .ok (.iload_n 3, 1) := gd_X12_partings_102.2.2.2.2.2.1
theorem dX12_partings_113 : decode cX12_partings 113 = .ok (.imul, 1) := gd_X12_partings_102.2.2.2.2.2.2.1
theorem dX12_partings_114 : decode cX12_partings 114 = .ok (.iload 4, 2) := gd_X12_partings_102.2.2.2.2.2.2.2.1
theorem dX12_partings_116 : decode cX12_partings 116 = .ok (.iadd, 1) := gd_X12_partings_102.2.2.2.2.2.2.2.2.1
theorem dX12_partings_117 : decode cX12_partings 117 = .ok (.aload_n 0, 1) := gd_X12_partings_102.2.2.2.2.2.2.2.2.2
theorem gd_X12_partings_118 : decode cX12_partings 118 = .ok (.getfield 61, 3) ∧ decode cX12_partings 121 = .ok (.bipush 24, 2) ∧ decode cX12_partings 123 = .ok (.iload_n 3, 1) ∧ decode cX12_partings 124 = .ok (.imul, 1) ∧ decode cX12_partings 125 = .ok (.iload 4, 2) ∧ decode cX12_partings 127 = .ok (.iadd, 1) ∧ decode cX12_partings 128 = .ok (.iaload, 1) ∧ decode cX12_partings 129 = .ok (.iastore, 1) ∧ decode cX12_partings 130 = .ok (.iinc 4 1, 3) ∧ decode cX12_partings 133 = .ok (.goto (-38), 3) := by decide +kernel
theorem dX12_partings_118 : decode cX12_partings 118 = .ok (.getfield 61, 3) := gd_X12_partings_118.1
theorem dX12_partings_121 : decode cX12_partings 121 = .ok (.bipush 24, 2) := gd_X12_partings_118.2.1
theorem dX12_partings_123 : decode cX12_partings 123 = .ok (.iload_n 3, 1) := gd_X12_partings_118.2.2.1
theorem dX12_partings_124 : decode cX12_partings 124 = .ok (.imul, 1) := gd_X12_partings_118.2.2.2.1
theorem dX12_partings_125 : decode cX12_partings 125 = .ok (.iload 4, 2) := gd_X12_partings_118.2.2.2.2.1
theorem dX12_partings_127 : decode cX12_partings 127 = .ok (.iadd, 1) := gd_X12_partings_118.2.2.2.2.2.1
theorem dX12_partings_128 : decode cX12_partings 128 = .ok (.iaload, 1) := gd_X12_partings_118.2.2.2.2.2.2.1
theorem dX12_partings_129 : decode cX12_partings 129 = .ok (.iastore, 1) := gd_X12_partings_118.2.2.2.2.2.2.2.1
theorem dX12_partings_130 : decode cX12_partings 130 = .ok (.iinc 4 1, 3) := gd_X12_partings_118.2.2.2.2.2.2.2.2.1
theorem dX12_partings_133 : decode cX12_partings 133 = .ok (.goto (-38), 3) := gd_X12_partings_118.2.2.2.2.2.2.2.2.2
theorem gd_X12_partings_136 : decode cX12_partings 136 = .ok (.iinc 3 1, 3) ∧ decode cX12_partings 139 = .ok (.goto (-67), 3) ∧ decode cX12_partings 142 = .ok (.aload_n 0, 1) ∧ decode cX12_partings 143 = .ok (.getfield 241, 3) ∧ decode cX12_partings 146 = .ok (.ireturn, 1) ∧ decode cX12_make 7 = .ok (.return_, 1) ∧ decode cX12_make 23 = .ok (.iconst 0, 1) ∧ decode cX12_make 24 = .ok (.istore_n 2, 1) ∧ decode cX12_make 25 = .ok (.iload_n 2, 1) ∧ decode cX12_make 26 = .ok (.aload_n 0, 1) := by decide +kernel
theorem dX12_partings_136 : decode cX12_partings 136 = .ok (.iinc 3 1, 3) := gd_X12_partings_136.1
theorem dX12_partings_139 : decode cX12_partings 139 = .ok (.goto (-67), 3) := gd_X12_partings_136.2.1
theorem dX12_partings_142 : decode cX12_partings 142 = .ok (.aload_n 0, 1) := gd_X12_partings_136.2.2.1
theorem dX12_partings_143 : decode cX12_partings 143 = .ok (.getfield 241, 3) := gd_X12_partings_136.2.2.2.1
theorem dX12_partings_146 : decode cX12_partings 146 = .ok (.ireturn, 1) := gd_X12_partings_136.2.2.2.2.1
theorem dX12_make_7 : decode cX12_make 7 = .ok (.return_, 1) := gd_X12_partings_136.2.2.2.2.2.1
theorem dX12_make_23 : decode cX12_make 23 = .ok (.iconst 0, 1) := gd_X12_partings_136.2.2.2.2.2.2.1
theorem dX12_make_24 : decode cX12_make 24 = .ok (.istore_n 2, 1) := gd_X12_partings_136.2.2.2.2.2.2.2.1
theorem dX12_make_25 : decode cX12_make 25 = .ok (.iload_n 2, 1) := gd_X12_partings_136.2.2.2.2.2.2.2.2.1
theorem dX12_make_26 : decode cX12_make 26 = .ok (.aload_n 0, 1) := gd_X12_partings_136.2.2.2.2.2.2.2.2.2
theorem gd_X12_make_27 : decode cX12_make 27 = .ok (.getfield 222, 3) ∧ decode cX12_make 30 = .ok (.if_icmp .gt 139, 3) ∧ decode cX12_make 33 = .ok (.aload_n 0, 1) ∧ decode cX12_make 34 = .ok (.aload_n 0, 1) ∧ decode cX12_make 35 = .ok (.getfield 106, 3) ∧ decode cX12_make 38 = .ok (.bipush 24, 2) ∧ decode cX12_make 40 = .ok (.iload_n 1, 1) ∧ decode cX12_make 41 = .ok (.imul, 1) ∧ decode cX12_make 42 = .ok (.aload_n 0, 1) ∧ decode cX12_make 43 = .ok (.getfield 109, 3) := by decide +kernel
theorem dX12_make_27 : decode cX12_make 27 = .ok (.getfield 222, 3) := gd_X12_make_27.1
theorem dX12_make_30 : decode cX12_make 30 = .ok (.if_icmp .gt 139, 3) := gd_X12_make_27.2.1
theorem dX12_make_33 : decode cX12_make 33 = .ok (.aload_n 0, 1) := gd_X12_make_27.2.2.1
theorem dX12_make_34 : decode cX12_make 34 = .ok (.aload_n 0, 1) := gd_X12_make_27.2.2.2.1
theorem dX12_make_35 : decode cX12_make 35 = .ok (.getfield 106, 3) := gd_X12_make_27.2.2.2.2.1
theorem dX12_make_38 : decode cX12_make 38 = .ok (.bipush 24, 2) := gd_X12_make_27.2.2.2.2.2.1
theorem dX12_make_40 : decode cX12_make 40 = .ok (.iload_n 1, 1) := gd_X12_make_27.2.2.2.2.2.2.1
theorem dX12_make_41 : decode cX12_make 41 = .ok (.imul, 1) := gd_X12_make_27.2.2.2.2.2.2.2.1
theorem dX12_make_42 : decode cX12_make 42 = .ok (.aload_n 0, 1) := gd_X12_make_27.2.2.2.2.2.2.2.2.1
theorem dX12_make_43 : decode cX12_make 43 = .ok (.getfield 109, 3) := gd_X12_make_27.2.2.2.2.2.2.2.2.2
theorem gd_X12_make_46 : decode cX12_make 46 = .ok (.iload_n 1, 1) ∧ decode cX12_make 47 = .ok (.iaload, 1) ∧ decode cX12_make 48 = .ok (.invokevirtual 290, 3) ∧ decode cX12_make 51 = .ok (.aload_n 0, 1) ∧ decode cX12_make 52 = .ok (.iconst 0, 1) ∧ decode cX12_make 53 = .ok (.iload_n 2, 1) ∧ decode cX12_make 54 = .ok (.invokevirtual 303, 3) ∧ decode cX12_make 57 = .ok (.bipush 7, 2) ∧ decode cX12_make 59 = .ok (.iload_n 1, 1) ∧ decode cX12_make 60 = .ok (.imul, 1) := by decide +kernel
theorem dX12_make_46 : decode cX12_make 46 = .ok (.iload_n 1, 1) := gd_X12_make_46.1
theorem dX12_make_47 : decode cX12_make 47 = .ok (.iaload, 1) := gd_X12_make_46.2.1
theorem dX12_make_48 : decode cX12_make 48 = .ok (.invokevirtual 290, 3) := gd_X12_make_46.2.2.1
theorem dX12_make_51 : decode cX12_make 51 = .ok (.aload_n 0, 1) := gd_X12_make_46.2.2.2.1
theorem dX12_make_52 : decode cX12_make 52 = .ok (.iconst 0, 1) := gd_X12_make_46.2.2.2.2.1
theorem dX12_make_53 : decode cX12_make 53 = .ok (.iload_n 2, 1) := gd_X12_make_46.2.2.2.2.2.1
theorem dX12_make_54 : decode cX12_make 54 = .ok (.invokevirtual 303, 3) := gd_X12_make_46.2.2.2.2.2.2.1
theorem dX12_make_57 : decode cX12_make 57 = .ok (.bipush 7, 2) := gd_X12_make_46.2.2.2.2.2.2.2.1
theorem dX12_make_59 : decode cX12_make 59 = .ok (.iload_n 1, 1) := gd_X12_make_46.2.2.2.2.2.2.2.2.1
theorem dX12_make_60 : decode cX12_make 60 = .ok (.imul, 1) := gd_X12_make_46.2.2.2.2.2.2.2.2.2
theorem gd_X12_make_61 : decode cX12_make 61 = .ok (.iload_n 2, 1) ∧ decode cX12_make 62 = .ok (.iadd, 1) ∧ decode cX12_make 63 = .ok (.istore_n 3, 1) ∧ decode cX12_make 64 = .ok (.aload_n 0, 1) ∧ decode cX12_make 65 = .ok (.getfield 119, 3) ∧ decode cX12_make 68 = .ok (.iload_n 3, 1) ∧ decode cX12_make 69 = .ok (.aload_n 0, 1) ∧ decode cX12_make 70 = .ok (.getfield 287, 3) ∧ decode cX12_make 73 = .ok (.iastore, 1) ∧ decode cX12_make 74 = .ok (.iconst 0, 1) := by decide +kernel
theorem dX12_make_61 : decode cX12_make 61 = .ok (.iload_n 2, 1) := gd_X12_make_61.1
theorem dX12_make_62 : decode cX12_make 62 = .ok (.iadd, 1) := gd_X12_make_61.2.1
theorem dX12_make_63 : decode cX12_make 63 = .ok (.istore_n 3, 1) := gd_X12_make_61.2.2.1
theorem dX12_make_64 : decode cX12_make 64 = .ok (.aload_n 0, 1) := gd_X12_make_61.2.2.2.1
theorem dX12_make_65 : decode cX12_make 65 = .ok (.getfield 119, 3) := gd_X12_make_61.2.2.2.2.1
theorem dX12_make_68 : decode cX12_make 68 = .ok (.iload_n 3, 1) := gd_X12_make_61.2.2.2.2.2.1
theorem dX12_make_69 : decode cX12_make 69 = .ok (.aload_n 0, 1) := gd_X12_make_61.2.2.2.2.2.2.1
theorem dX12_make_70 : decode cX12_make 70 = .ok (.getfield 287, 3) := gd_X12_make_61.2.2.2.2.2.2.2.1
theorem dX12_make_73 : decode cX12_make 73 = .ok (.iastore, 1) := gd_X12_make_61.2.2.2.2.2.2.2.2.1
theorem dX12_make_74 : decode cX12_make 74 = .ok (.iconst 0, 1) := gd_X12_make_61.2.2.2.2.2.2.2.2.2
theorem gd_X12_make_75 : decode cX12_make 75 = .ok (.istore 4, 2) ∧ decode cX12_make 77 = .ok (.iload 4, 2) ∧ decode cX12_make 79 = .ok (.aload_n 0, 1) ∧ decode cX12_make 80 = .ok (.getfield 287, 3) ∧ decode cX12_make 83 = .ok (.if_icmp .ge 80, 3) ∧ decode cX12_make 86 = .ok (.aload_n 0, 1) ∧ decode cX12_make 87 = .ok (.getfield 116, 3) ∧ decode cX12_make 90 = .ok (.bipush 12, 2) ∧ decode cX12_make 92 = .ok (.iload_n 3, 1) ∧ decode cX12_make 93 = .ok (.imul, 1) := by decide +kernel
theorem dX12_make_75 : decode cX12_make 75 = .ok (.istore 4, 2) := gd_X12_make_75.1
theorem dX12_make_77 : decode cX12_make 77 = .ok (.iload 4, 2) := gd_X12_make_75.2.1
theorem dX12_make_79 : decode cX12_make 79 = .ok (.aload_n 0, 1) := gd_X12_make_75.2.2.1
theorem dX12_make_80 : decode cX12_make 80 = .ok (.getfield 287, 3) := gd_X12_make_75.2.2.2.1
theorem dX12_make_83 : decode cX12_make 83 = .ok (.if_icmp .ge 80, 3) := gd_X12_make_75.2.2.2.2.1
theorem dX12_make_86 : decode cX12_make 86 = .ok (.aload_n 0, 1) := gd_X12_make_75.2.2.2.2.2.1
theorem dX12_make_87 : decode cX12_make 87 = .ok (.getfield 116, 3) := gd_X12_make_75.2.2.2.2.2.2.1
theorem dX12_make_90 : decode cX12_make 90 = .ok (.bipush 12, 2) := gd_X12_make_75.2.2.2.2.2.2.2.1
theorem dX12_make_92 : decode cX12_make 92 = .ok (.iload_n 3, 1) := gd_X12_make_75.2.2.2.2.2.2.2.2.1
theorem dX12_make_93 : decode cX12_make 93 = .ok (.imul, 1) := gd_X12_make_75.2.2.2.2.2.2.2.2.2
theorem gd_X12_make_94 : decode cX12_make 94 = .ok (.iload 4, 2) ∧ decode cX12_make 96 = .ok (.iadd, 1) ∧ decode cX12_make 97 = .ok (.aload_n 0, 1) ∧ decode cX12_make 98 = .ok (.getfield 85, 3) ∧ decode cX12_make 101 = .ok (.iload 4, 2) ∧ decode cX12_make 103 = .ok (.iaload, 1) ∧ decode cX12_make 104 = .ok (.iastore, 1) ∧ decode cX12_make 105 = .ok (.iconst 0, 1) ∧ decode cX12_make 106 = .ok (.istore 5, 2) ∧ decode cX12_make 108 = .ok (.iload 5, 2) := by decide +kernel
theorem dX12_make_94 : decode cX12_make 94 = .ok (.iload 4, 2) := gd_X12_make_94.1
theorem dX12_make_96 : decode cX12_make 96 = .ok (.iadd, 1) := gd_X12_make_94.2.1
theorem dX12_make_97 : decode cX12_make 97 = .ok (.aload_n 0, 1) := gd_X12_make_94.2.2.1
theorem dX12_make_98 : decode cX12_make 98 = .ok (.getfield 85, 3) := gd_X12_make_94.2.2.2.1
theorem dX12_make_101 : decode cX12_make 101 = .ok (.iload 4, 2) := gd_X12_make_94.2.2.2.2.1
theorem dX12_make_103 : decode cX12_make 103 = .ok (.iaload, 1) := gd_X12_make_94.2.2.2.2.2.1
theorem dX12_make_104 : decode cX12_make 104 = .ok (.iastore, 1) := gd_X12_make_94.2.2.2.2.2.2.1
theorem dX12_make_105 : decode cX12_make 105 = .ok (.iconst 0, 1) := gd_X12_make_94.2.2.2.2.2.2.2.1
theorem dX12_make_106 : decode cX12_make 106 = .ok (.istore 5, 2) := gd_X12_make_94.2.2.2.2.2.2.2.2.1
theorem dX12_make_108 : decode cX12_make 108 = .ok (.iload 5, 2) := gd_X12_make_94.2.2.2.2.2.2.2.2.2
theorem gd_X12_make_110 : decode cX12_make 110 = .ok (.aload_n 0, 1) ∧ decode cX12_make 111 = .ok (.getfield 85, 3) ∧ decode cX12_make 114 = .ok (.iload 4, 2) ∧ decode cX12_make 116 = .ok (.iaload, 1) ∧ decode cX12_make 117 = .ok (.if_icmp .ge 40, 3) ∧ decode cX12_make 120 = .ok (.aload_n 0, 1) ∧ decode cX12_make 121 = .ok (.getfield 113, 3) ∧ decode cX12_make 124 = .ok (.bipush 24, 2) ∧ decode cX12_make 126 = .ok (.bipush 12, 2) ∧ decode cX12_make 128 = .ok (.iload_n 3, 1) := by decide +kernel
theorem dX12_make_110 : decode cX12_make 110 = .ok (.aload_n 0, 1) := gd_X12_make_110.1
theorem dX12_make_111 : decode cX12_make 111 = .ok (.getfield 85, 3) := gd_X12_make_110.2.1
theorem dX12_make_114 : decode cX12_make 114 = .ok (.iload 4, 2) := gd_X12_make_110.2.2.1
theorem dX12_make_116 : decode cX12_make 116 = .ok (.iaload, 1) := gd_X12_make_110.2.2.2.1
theorem dX12_make_117 : decode cX12_make 117 = .ok (.if_icmp .ge 40, 3) := gd_X12_make_110.2.2.2.2.1
theorem dX12_make_120 : decode cX12_make 120 = .ok (.aload_n 0, 1) := gd_X12_make_110.2.2.2.2.2.1
theorem dX12_make_121 : decode cX12_make 121 = .ok (.getfield 113, 3) := gd_X12_make_110.2.2.2.2.2.2.1
theorem dX12_make_124 : decode cX12_make 124 = .ok (.bipush 24, 2) := gd_X12_make_110.2.2.2.2.2.2.2.1
theorem dX12_make_126 : decode cX12_make 126 = .ok (.bipush 12, 2) := gd_X12_make_110.2.2.2.2.2.2.2.2.1
theorem dX12_make_128 : decode cX12_make 128 = .ok (.iload_n 3, 1) := gd_X12_make_110.2.2.2.2.2.2.2.2.2
theorem gd_X12_make_129 : decode cX12_make 129 = .ok (.imul, 1) ∧ decode cX12_make 130 = .ok (.iload 4, 2) ∧ decode cX12_make 132 = .ok (.iadd, 1) ∧ decode cX12_make 133 = .ok (.imul, 1) ∧ decode cX12_make 134 = .ok (.iload 5, 2) ∧ decode cX12_make 136 = .ok (.iadd, 1) ∧ decode cX12_make 137 = .ok (.aload_n 0, 1) ∧ decode cX12_make 138 = .ok (.getfield 82, 3) ∧ decode cX12_make 141 = .ok (.bipush 24, 2) ∧ decode cX12_make 143 = .ok (.iload 4, 2) := by decide +kernel
theorem dX12_make_129 : decode cX12_make 129 = .ok (.imul, 1) := gd_X12_make_129.1
theorem dX12_make_130 : decode cX12_make 130 = .ok (.iload 4, 2) := gd_X12_make_129.2.1
theorem dX12_make_132 : decode cX12_make 132 = .ok (.iadd, 1) := gd_X12_make_129.2.2.1
theorem dX12_make_133 : decode cX12_make 133 = .ok (.imul, 1) := gd_X12_make_129.2.2.2.1
theorem dX12_make_134 : decode cX12_make 134 = .ok (.iload 5, 2) := gd_X12_make_129.2.2.2.2.1
theorem dX12_make_136 : decode cX12_make 136 = .ok (.iadd, 1) := gd_X12_make_129.2.2.2.2.2.1
theorem dX12_make_137 : decode cX12_make 137 = .ok (.aload_n 0, 1) := gd_X12_make_129.2.2.2.2.2.2.1
theorem dX12_make_138 : decode cX12_make 138 = .ok (.getfield 82, 3) := gd_X12_make_129.2.2.2.2.2.2.2.1
theorem dX12_make_141 : decode cX12_make 141 = .ok (.bipush 24, 2) := gd_X12_make_129.2.2.2.2.2.2.2.2.1
theorem dX12_make_143 : decode cX12_make 143 = .ok (.iload 4, 2) := gd_X12_make_129.2.2.2.2.2.2.2.2.2
theorem gd_X12_make_145 : decode cX12_make 145 = .ok (.imul, 1) ∧ decode cX12_make 146 = .ok (.iload 5, 2) ∧ decode cX12_make 148 = .ok (.iadd, 1) ∧ decode cX12_make 149 = .ok (.baload, 1) ∧ decode cX12_make 150 = .ok (.bastore, 1) ∧ decode cX12_make 151 = .ok (.iinc 5 1, 3) ∧ decode cX12_make 154 = .ok (.goto (-46), 3) ∧ decode cX12_make 157 = .ok (.iinc 4 1, 3) ∧ decode cX12_make 160 = .ok (.goto (-83), 3) ∧ decode cX12_make 163 = .ok (.iinc 2 1, 3) := by decide +kernel
theorem dX12_make_145 : decode cX12_make 145 = .ok (.imul, 1) := gd_X12_make_145.1
theorem dX12_make_146 : decode cX12_make 146 = .ok (.iload 5, 2) := gd_X12_make_145.2.1
theorem dX12_make_148 : decode cX12_make 148 = .ok (.iadd, 1) := gd_X12_make_145.2.2.1
theorem dX12_make_149 : decode cX12_make 149 = .ok (.baload, 1) := gd_X12_make_145.2.2.2.1
theorem dX12_make_150 : decode cX12_make 150 = .ok (.bastore, 1) := gd_X12_make_145.2.2.2.2.1
theorem dX12_make_151 : decode cX12_make 151 = .ok (.iinc 5 1, 3) := gd_X12_make_145.2.2.2.2.2.1
theorem dX12_make_154 : decode cX12_make 154 = .ok (.goto (-46), 3) := gd_X12_make_145.2.2.2.2.2.2.1
theorem dX12_make_157 : decode cX12_make 157 = .ok (.iinc 4 1, 3) := gd_X12_make_145.2.2.2.2.2.2.2.1
theorem dX12_make_160 : decode cX12_make 160 = .ok (.goto (-83), 3) := gd_X12_make_145.2.2.2.2.2.2.2.2.1
theorem dX12_make_163 : decode cX12_make 163 = .ok (.iinc 2 1, 3) := gd_X12_make_145.2.2.2.2.2.2.2.2.2
theorem gd_X12_make_166 : decode cX12_make 166 = .ok (.goto (-141), 3) ∧ decode cX12_make 169 = .ok (.iinc 1 1, 3) ∧ decode cX12_make 172 = .ok (.goto (-157), 3) ∧ decode cX12_back 7 = .ok (.aload_n 0, 1) ∧ decode cX12_back 8 = .ok (.iload_n 1, 1) ∧ decode cX12_back 9 = .ok (.invokevirtual 300, 3) ∧ decode cX12_back 12 = .ok (.ifCond .ne 6, 3) ∧ decode cX12_back 18 = .ok (.aload_n 0, 1) ∧ decode cX12_back 19 = .ok (.getfield 244, 3) ∧ decode cX12_back 22 = .ok (.istore_n 2, 1) := by decide +kernel
theorem dX12_make_166 : decode cX12_make 166 = .ok (.goto (-141), 3) := gd_X12_make_166.1
theorem dX12_make_169 : decode cX12_make 169 = .ok (.iinc 1 1, 3) := gd_X12_make_166.2.1
theorem dX12_make_172 : decode cX12_make 172 = .ok (.goto (-157), 3) := gd_X12_make_166.2.2.1
theorem dX12_back_7 : decode cX12_back 7 = .ok (.aload_n 0, 1) := gd_X12_make_166.2.2.2.1
theorem dX12_back_8 : decode cX12_back 8 = .ok (.iload_n 1, 1) := gd_X12_make_166.2.2.2.2.1
theorem dX12_back_9 : decode cX12_back 9 = .ok (.invokevirtual 300, 3) := gd_X12_make_166.2.2.2.2.2.1
theorem dX12_back_12 : decode cX12_back 12 = .ok (.ifCond .ne 6, 3) := gd_X12_make_166.2.2.2.2.2.2.1
theorem dX12_back_18 : decode cX12_back 18 = .ok (.aload_n 0, 1) := gd_X12_make_166.2.2.2.2.2.2.2.1
theorem dX12_back_19 : decode cX12_back 19 = .ok (.getfield 244, 3) := gd_X12_make_166.2.2.2.2.2.2.2.2.1
theorem dX12_back_22 : decode cX12_back 22 = .ok (.istore_n 2, 1) := gd_X12_make_166.2.2.2.2.2.2.2.2.2
theorem gd_X12_back_23 : decode cX12_back 23 = .ok (.iconst 0, 1) ∧ decode cX12_back 24 = .ok (.istore_n 3, 1) ∧ decode cX12_back 25 = .ok (.iload_n 3, 1) ∧ decode cX12_back 26 = .ok (.iload_n 2, 1) ∧ decode cX12_back 27 = .ok (.if_icmp .ge 21, 3) ∧ decode cX12_back 30 = .ok (.aload_n 0, 1) ∧ decode cX12_back 31 = .ok (.getfield 125, 3) ∧ decode cX12_back 34 = .ok (.iload_n 3, 1) ∧ decode cX12_back 35 = .ok (.aload_n 0, 1) ∧ decode cX12_back 36 = .ok (.getfield 55, 3) := by decide +kernel
theorem dX12_back_23 : decode cX12_back 23 = .ok (.iconst 0, 1) := gd_X12_back_23.1
theorem dX12_back_24 : decode cX12_back 24 = .ok (.istore_n 3, 1) := gd_X12_back_23.2.1
theorem dX12_back_25 : decode cX12_back 25 = .ok (.iload_n 3, 1) := gd_X12_back_23.2.2.1
theorem dX12_back_26 : decode cX12_back 26 = .ok (.iload_n 2, 1) := gd_X12_back_23.2.2.2.1
theorem dX12_back_27 : decode cX12_back 27 = .ok (.if_icmp .ge 21, 3) := gd_X12_back_23.2.2.2.2.1
theorem dX12_back_30 : decode cX12_back 30 = .ok (.aload_n 0, 1) := gd_X12_back_23.2.2.2.2.2.1
theorem dX12_back_31 : decode cX12_back 31 = .ok (.getfield 125, 3) := gd_X12_back_23.2.2.2.2.2.2.1
theorem dX12_back_34 : decode cX12_back 34 = .ok (.iload_n 3, 1) := gd_X12_back_23.2.2.2.2.2.2.2.1
theorem dX12_back_35 : decode cX12_back 35 = .ok (.aload_n 0, 1) := gd_X12_back_23.2.2.2.2.2.2.2.2.1
theorem dX12_back_36 : decode cX12_back 36 = .ok (.getfield 55, 3) := gd_X12_back_23.2.2.2.2.2.2.2.2.2
theorem gd_X12_back_39 : decode cX12_back 39 = .ok (.iload_n 3, 1) ∧ decode cX12_back 40 = .ok (.baload, 1) ∧ decode cX12_back 41 = .ok (.bastore, 1) ∧ decode cX12_back 42 = .ok (.iinc 3 1, 3) ∧ decode cX12_back 45 = .ok (.goto (-20), 3) ∧ decode cX12_back 48 = .ok (.aload_n 0, 1) ∧ decode cX12_back 49 = .ok (.invokevirtual 315, 3) ∧ decode cX12_back 52 = .ok (.aload_n 0, 1) ∧ decode cX12_back 53 = .ok (.iconst 0, 1) ∧ decode cX12_back 54 = .ok (.putfield 318, 3) := by decide +kernel
theorem dX12_back_39 : decode cX12_back 39 = .ok (.iload_n 3, 1) := gd_X12_back_39.1
theorem dX12_back_40 : decode cX12_back 40 = .ok (.baload, 1) := gd_X12_back_39.2.1
theorem dX12_back_41 : decode cX12_back 41 = .ok (.bastore, 1) := gd_X12_back_39.2.2.1
theorem dX12_back_42 : decode cX12_back 42 = .ok (.iinc 3 1, 3) := gd_X12_back_39.2.2.2.1
theorem dX12_back_45 : decode cX12_back 45 = .ok (.goto (-20), 3) := gd_X12_back_39.2.2.2.2.1
theorem dX12_back_48 : decode cX12_back 48 = .ok (.aload_n 0, 1) := gd_X12_back_39.2.2.2.2.2.1
theorem dX12_back_49 : decode cX12_back 49 = .ok (.invokevirtual 315, 3) := gd_X12_back_39.2.2.2.2.2.2.1
theorem dX12_back_52 : decode cX12_back 52 = .ok (.aload_n 0, 1) := gd_X12_back_39.2.2.2.2.2.2.2.1
theorem dX12_back_53 : decode cX12_back 53 = .ok (.iconst 0, 1) := gd_X12_back_39.2.2.2.2.2.2.2.2.1
theorem dX12_back_54 : decode cX12_back 54 = .ok (.putfield 318, 3) := gd_X12_back_39.2.2.2.2.2.2.2.2.2
theorem gd_X12_back_57 : decode cX12_back 57 = .ok (.iconst 0, 1) ∧ decode cX12_back 58 = .ok (.istore_n 3, 1) ∧ decode cX12_back 59 = .ok (.iload_n 3, 1) ∧ decode cX12_back 60 = .ok (.aload_n 0, 1) ∧ decode cX12_back 61 = .ok (.getfield 312, 3) ∧ decode cX12_back 64 = .ok (.if_icmp .ge 47, 3) ∧ decode cX12_back 67 = .ok (.aload_n 0, 1) ∧ decode cX12_back 68 = .ok (.iload_n 3, 1) ∧ decode cX12_back 69 = .ok (.iload_n 1, 1) ∧ decode cX12_back 70 = .ok (.aload_n 0, 1) := by decide +kernel
theorem dX12_back_57 : decode cX12_back 57 = .ok (.iconst 0, 1) := gd_X12_back_57.1
theorem dX12_back_58 : decode cX12_back 58 = .ok (.istore_n 3, 1) := gd_X12_back_57.2.1
theorem dX12_back_59 : decode cX12_back 59 = .ok (.iload_n 3, 1) := gd_X12_back_57.2.2.1
theorem dX12_back_60 : decode cX12_back 60 = .ok (.aload_n 0, 1) := gd_X12_back_57.2.2.2.1
theorem dX12_back_61 : decode cX12_back 61 = .ok (.getfield 312, 3) := gd_X12_back_57.2.2.2.2.1
theorem dX12_back_64 : decode cX12_back 64 = .ok (.if_icmp .ge 47, 3) := gd_X12_back_57.2.2.2.2.2.1
theorem dX12_back_67 : decode cX12_back 67 = .ok (.aload_n 0, 1) := gd_X12_back_57.2.2.2.2.2.2.1
theorem dX12_back_68 : decode cX12_back 68 = .ok (.iload_n 3, 1) := gd_X12_back_57.2.2.2.2.2.2.2.1
theorem dX12_back_69 : decode cX12_back 69 = .ok (.iload_n 1, 1) := gd_X12_back_57.2.2.2.2.2.2.2.2.1
theorem dX12_back_70 : decode cX12_back 70 = .ok (.aload_n 0, 1) := gd_X12_back_57.2.2.2.2.2.2.2.2.2
theorem gd_X12_back_71 : decode cX12_back 71 = .ok (.getfield 125, 3) ∧ decode cX12_back 74 = .ok (.iconst 0, 1) ∧ decode cX12_back 75 = .ok (.iload_n 2, 1) ∧ decode cX12_back 76 = .ok (.invokevirtual 321, 3) ∧ decode cX12_back 79 = .ok (.ifCond .ne 6, 3) ∧ decode cX12_back 82 = .ok (.goto 23, 3) ∧ decode cX12_back 85 = .ok (.aload_n 0, 1) ∧ decode cX12_back 86 = .ok (.getfield 122, 3) ∧ decode cX12_back 89 = .ok (.aload_n 0, 1) ∧ decode cX12_back 90 = .ok (.getfield 318, 3) := by decide +kernel
theorem dX12_back_71 : decode cX12_back 71 = .ok (.getfield 125, 3) := gd_X12_back_71.1
theorem dX12_back_74 : decode cX12_back 74 = .ok (.iconst 0, 1) := gd_X12_back_71.2.1
theorem dX12_back_75 : decode cX12_back 75 = .ok (.iload_n 2, 1) := gd_X12_back_71.2.2.1
theorem dX12_back_76 : decode cX12_back 76 = .ok (.invokevirtual 321, 3) := gd_X12_back_71.2.2.2.1
theorem dX12_back_79 : decode cX12_back 79 = .ok (.ifCond .ne 6, 3) := gd_X12_back_71.2.2.2.2.1
theorem dX12_back_82 : decode cX12_back 82 = .ok (.goto 23, 3) := gd_X12_back_71.2.2.2.2.2.1
theorem dX12_back_85 : decode cX12_back 85 = .ok (.aload_n 0, 1) := gd_X12_back_71.2.2.2.2.2.2.1
theorem dX12_back_86 : decode cX12_back 86 = .ok (.getfield 122, 3) := gd_X12_back_71.2.2.2.2.2.2.2.1
theorem dX12_back_89 : decode cX12_back 89 = .ok (.aload_n 0, 1) := gd_X12_back_71.2.2.2.2.2.2.2.2.1
theorem dX12_back_90 : decode cX12_back 90 = .ok (.getfield 318, 3) := gd_X12_back_71.2.2.2.2.2.2.2.2.2
theorem gd_X12_back_93 : decode cX12_back 93 = .ok (.iload_n 3, 1) ∧ decode cX12_back 94 = .ok (.iastore, 1) ∧ decode cX12_back 95 = .ok (.aload_n 0, 1) ∧ decode cX12_back 96 = .ok (.dup, 1) ∧ decode cX12_back 97 = .ok (.getfield 318, 3) ∧ decode cX12_back 100 = .ok (.iconst 1, 1) ∧ decode cX12_back 101 = .ok (.iadd, 1) ∧ decode cX12_back 102 = .ok (.putfield 318, 3) ∧ decode cX12_back 105 = .ok (.iinc 3 1, 3) ∧ decode cX12_back 108 = .ok (.goto (-49), 3) := by decide +kernel
theorem dX12_back_93 : decode cX12_back 93 = .ok (.iload_n 3, 1) := gd_X12_back_93.1
theorem dX12_back_94 : decode cX12_back 94 = .ok (.iastore, 1) := gd_X12_back_93.2.1
theorem dX12_back_95 : decode cX12_back 95 = .ok (.aload_n 0, 1) := gd_X12_back_93.2.2.1
theorem dX12_back_96 : decode cX12_back 96 = .ok (.dup, 1) := gd_X12_back_93.2.2.2.1
theorem dX12_back_97 : decode cX12_back 97 = .ok (.getfield 318, 3) := gd_X12_back_93.2.2.2.2.1
theorem dX12_back_100 : decode cX12_back 100 = .ok (.iconst 1, 1) := gd_X12_back_93.2.2.2.2.2.1
theorem dX12_back_101 : decode cX12_back 101 = .ok (.iadd, 1) := gd_X12_back_93.2.2.2.2.2.2.1
theorem dX12_back_102 : decode cX12_back 102 = .ok (.putfield 318, 3) := gd_X12_back_93.2.2.2.2.2.2.2.1
theorem dX12_back_105 : decode cX12_back 105 = .ok (.iinc 3 1, 3) := gd_X12_back_93.2.2.2.2.2.2.2.2.1
theorem dX12_back_108 : decode cX12_back 108 = .ok (.goto (-49), 3) := gd_X12_back_93.2.2.2.2.2.2.2.2.2
theorem gd_X12_back_111 : decode cX12_back 111 = .ok (.aload_n 0, 1) ∧ decode cX12_back 112 = .ok (.getfield 318, 3) ∧ decode cX12_back 115 = .ok (.ireturn, 1) ∧ decode cX12_collisions 32 = .ok (.iload_n 3, 1) ∧ decode cX12_collisions 33 = .ok (.iconst 1, 1) ∧ decode cX12_collisions 34 = .ok (.iadd, 1) ∧ decode cX12_collisions 35 = .ok (.istore 4, 2) ∧ decode cX12_collisions 37 = .ok (.iload 4, 2) ∧ decode cX12_collisions 39 = .ok (.aload_n 0, 1) ∧ decode cX12_collisions 40 = .ok (.getfield 312, 3) := by decide +kernel
theorem dX12_back_111 : decode cX12_back 111 = .ok (.aload_n 0, 1) := gd_X12_back_111.1
theorem dX12_back_112 : decode cX12_back 112 = .ok (.getfield 318, 3) := gd_X12_back_111.2.1
theorem dX12_back_115 : decode cX12_back 115 = .ok (.ireturn, 1) := gd_X12_back_111.2.2.1
theorem dX12_collisions_32 : decode cX12_collisions 32 = .ok (.iload_n 3, 1) := gd_X12_back_111.2.2.2.1
theorem dX12_collisions_33 : decode cX12_collisions 33 = .ok (.iconst 1, 1) := gd_X12_back_111.2.2.2.2.1
theorem dX12_collisions_34 : decode cX12_collisions 34 = .ok (.iadd, 1) := gd_X12_back_111.2.2.2.2.2.1
theorem dX12_collisions_35 : decode cX12_collisions 35 = .ok (.istore 4, 2) := gd_X12_back_111.2.2.2.2.2.2.1
theorem dX12_collisions_37 : decode cX12_collisions 37 = .ok (.iload 4, 2) := gd_X12_back_111.2.2.2.2.2.2.2.1
theorem dX12_collisions_39 : decode cX12_collisions 39 = .ok (.aload_n 0, 1) := gd_X12_back_111.2.2.2.2.2.2.2.2.1
theorem dX12_collisions_40 : decode cX12_collisions 40 = .ok (.getfield 312, 3) := gd_X12_back_111.2.2.2.2.2.2.2.2.2
theorem gd_X12_collisions_43 : decode cX12_collisions 43 = .ok (.if_icmp .ge 66, 3) ∧ decode cX12_collisions 46 = .ok (.aload_n 0, 1) ∧ decode cX12_collisions 47 = .ok (.iload_n 3, 1) ∧ decode cX12_collisions 48 = .ok (.iload 4, 2) ∧ decode cX12_collisions 50 = .ok (.iload_n 1, 1) ∧ decode cX12_collisions 51 = .ok (.invokevirtual 328, 3) ∧ decode cX12_collisions 54 = .ok (.ifCond .ne 6, 3) ∧ decode cX12_collisions 57 = .ok (.goto 46, 3) ∧ decode cX12_collisions 60 = .ok (.iinc 2 1, 3) ∧ decode cX12_collisions 63 = .ok (.aload_n 0, 1) := by decide +kernel
theorem dX12_collisions_43 : decode cX12_collisions 43 = .ok (.if_icmp .ge 66, 3) := gd_X12_collisions_43.1
theorem dX12_collisions_46 : decode cX12_collisions 46 = .ok (.aload_n 0, 1) := gd_X12_collisions_43.2.1
theorem dX12_collisions_47 : decode cX12_collisions 47 = .ok (.iload_n 3, 1) := gd_X12_collisions_43.2.2.1
theorem dX12_collisions_48 : decode cX12_collisions 48 = .ok (.iload 4, 2) := gd_X12_collisions_43.2.2.2.1
theorem dX12_collisions_50 : decode cX12_collisions 50 = .ok (.iload_n 1, 1) := gd_X12_collisions_43.2.2.2.2.1
theorem dX12_collisions_51 : decode cX12_collisions 51 = .ok (.invokevirtual 328, 3) := gd_X12_collisions_43.2.2.2.2.2.1
theorem dX12_collisions_54 : decode cX12_collisions 54 = .ok (.ifCond .ne 6, 3) := gd_X12_collisions_43.2.2.2.2.2.2.1
theorem dX12_collisions_57 : decode cX12_collisions 57 = .ok (.goto 46, 3) := gd_X12_collisions_43.2.2.2.2.2.2.2.1
theorem dX12_collisions_60 : decode cX12_collisions 60 = .ok (.iinc 2 1, 3) := gd_X12_collisions_43.2.2.2.2.2.2.2.2.1
theorem dX12_collisions_63 : decode cX12_collisions 63 = .ok (.aload_n 0, 1) := gd_X12_collisions_43.2.2.2.2.2.2.2.2.2
theorem gd_X12_collisions_64 : decode cX12_collisions 64 = .ok (.getfield 325, 3) ∧ decode cX12_collisions 67 = .ok (.sipush 200, 3) ∧ decode cX12_collisions 70 = .ok (.if_icmp .ne 6, 3) ∧ decode cX12_collisions 73 = .ok (.goto 30, 3) ∧ decode cX12_collisions 76 = .ok (.aload_n 0, 1) ∧ decode cX12_collisions 77 = .ok (.getfield 128, 3) ∧ decode cX12_collisions 80 = .ok (.aload_n 0, 1) ∧ decode cX12_collisions 81 = .ok (.getfield 325, 3) ∧ decode cX12_collisions 84 = .ok (.sipush 1000, 3) ∧ decode cX12_collisions 87 = .ok (.iload_n 3, 1) := by decide +kernel
theorem dX12_collisions_64 : decode cX12_collisions 64 = .ok (.getfield 325, 3) := gd_X12_collisions_64.1
theorem dX12_collisions_67 : decode cX12_collisions 67 = .ok (.sipush 200, 3) := gd_X12_collisions_64.2.1
theorem dX12_collisions_70 : decode cX12_collisions 70 = .ok (.if_icmp .ne 6, 3) := gd_X12_collisions_64.2.2.1
theorem dX12_collisions_73 : decode cX12_collisions 73 = .ok (.goto 30, 3) := gd_X12_collisions_64.2.2.2.1
theorem dX12_collisions_76 : decode cX12_collisions 76 = .ok (.aload_n 0, 1) := gd_X12_collisions_64.2.2.2.2.1
theorem dX12_collisions_77 : decode cX12_collisions 77 = .ok (.getfield 128, 3) := gd_X12_collisions_64.2.2.2.2.2.1
theorem dX12_collisions_80 : decode cX12_collisions 80 = .ok (.aload_n 0, 1) := gd_X12_collisions_64.2.2.2.2.2.2.1
theorem dX12_collisions_81 : decode cX12_collisions 81 = .ok (.getfield 325, 3) := gd_X12_collisions_64.2.2.2.2.2.2.2.1
theorem dX12_collisions_84 : decode cX12_collisions 84 = .ok (.sipush 1000, 3) := gd_X12_collisions_64.2.2.2.2.2.2.2.2.1
theorem dX12_collisions_87 : decode cX12_collisions 87 = .ok (.iload_n 3, 1) := gd_X12_collisions_64.2.2.2.2.2.2.2.2.2
theorem gd_X12_collisions_88 : decode cX12_collisions 88 = .ok (.imul, 1) ∧ decode cX12_collisions 89 = .ok (.iload 4, 2) ∧ decode cX12_collisions 91 = .ok (.iadd, 1) ∧ decode cX12_collisions 92 = .ok (.iastore, 1) ∧ decode cX12_collisions 93 = .ok (.aload_n 0, 1) ∧ decode cX12_collisions 94 = .ok (.dup, 1) ∧ decode cX12_collisions 95 = .ok (.getfield 325, 3) ∧ decode cX12_collisions 98 = .ok (.iconst 1, 1) ∧ decode cX12_collisions 99 = .ok (.iadd, 1) ∧ decode cX12_collisions 100 = .ok (.putfield 325, 3) := by decide +kernel
theorem dX12_collisions_88 : decode cX12_collisions 88 = .ok (.imul, 1) := gd_X12_collisions_88.1
theorem dX12_collisions_89 : decode cX12_collisions 89 = .ok (.iload 4, 2) := gd_X12_collisions_88.2.1
theorem dX12_collisions_91 : decode cX12_collisions 91 = .ok (.iadd, 1) := gd_X12_collisions_88.2.2.1
theorem dX12_collisions_92 : decode cX12_collisions 92 = .ok (.iastore, 1) := gd_X12_collisions_88.2.2.2.1
theorem dX12_collisions_93 : decode cX12_collisions 93 = .ok (.aload_n 0, 1) := gd_X12_collisions_88.2.2.2.2.1
theorem dX12_collisions_94 : decode cX12_collisions 94 = .ok (.dup, 1) := gd_X12_collisions_88.2.2.2.2.2.1
theorem dX12_collisions_95 : decode cX12_collisions 95 = .ok (.getfield 325, 3) := gd_X12_collisions_88.2.2.2.2.2.2.1
theorem dX12_collisions_98 : decode cX12_collisions 98 = .ok (.iconst 1, 1) := gd_X12_collisions_88.2.2.2.2.2.2.2.1
theorem dX12_collisions_99 : decode cX12_collisions 99 = .ok (.iadd, 1) := gd_X12_collisions_88.2.2.2.2.2.2.2.2.1
theorem dX12_collisions_100 : decode cX12_collisions 100 = .ok (.putfield 325, 3) := gd_X12_collisions_88.2.2.2.2.2.2.2.2.2
theorem gd_X12_collisions_103 : decode cX12_collisions 103 = .ok (.iinc 4 1, 3) ∧ decode cX12_collisions 106 = .ok (.goto (-69), 3) ∧ decode cX12_collisions 109 = .ok (.iinc 3 1, 3) ∧ decode cX12_collisions 112 = .ok (.goto (-88), 3) ∧ decode cX12_rhymes 27 = .ok (.iload_n 3, 1) ∧ decode cX12_rhymes 28 = .ok (.iconst 1, 1) ∧ decode cX12_rhymes 29 = .ok (.iadd, 1) ∧ decode cX12_rhymes 30 = .ok (.istore 4, 2) ∧ decode cX12_rhymes 32 = .ok (.iload 4, 2) ∧ decode cX12_rhymes 34 = .ok (.aload_n 0, 1) := by decide +kernel
theorem dX12_collisions_103 : decode cX12_collisions 103 = .ok (.iinc 4 1, 3) := gd_X12_collisions_103.1
theorem dX12_collisions_106 : decode cX12_collisions 106 = .ok (.goto (-69), 3) := gd_X12_collisions_103.2.1
theorem dX12_collisions_109 : decode cX12_collisions 109 = .ok (.iinc 3 1, 3) := gd_X12_collisions_103.2.2.1
theorem dX12_collisions_112 : decode cX12_collisions 112 = .ok (.goto (-88), 3) := gd_X12_collisions_103.2.2.2.1
theorem dX12_rhymes_27 : decode cX12_rhymes 27 = .ok (.iload_n 3, 1) := gd_X12_collisions_103.2.2.2.2.1
theorem dX12_rhymes_28 : decode cX12_rhymes 28 = .ok (.iconst 1, 1) := gd_X12_collisions_103.2.2.2.2.2.1
theorem dX12_rhymes_29 : decode cX12_rhymes 29 = .ok (.iadd, 1) := gd_X12_collisions_103.2.2.2.2.2.2.1
theorem dX12_rhymes_30 : decode cX12_rhymes 30 = .ok (.istore 4, 2) := gd_X12_collisions_103.2.2.2.2.2.2.2.1
theorem dX12_rhymes_32 : decode cX12_rhymes 32 = .ok (.iload 4, 2) := gd_X12_collisions_103.2.2.2.2.2.2.2.2.1
theorem dX12_rhymes_34 : decode cX12_rhymes 34 = .ok (.aload_n 0, 1) := gd_X12_collisions_103.2.2.2.2.2.2.2.2.2
theorem gd_X12_rhymes_35 : decode cX12_rhymes 35 = .ok (.getfield 312, 3) ∧ decode cX12_rhymes 38 = .ok (.if_icmp .ge 64, 3) ∧ decode cX12_rhymes 41 = .ok (.iload_n 2, 1) ∧ decode cX12_rhymes 42 = .ok (.aload_n 0, 1) ∧ decode cX12_rhymes 43 = .ok (.getfield 106, 3) ∧ decode cX12_rhymes 46 = .ok (.bipush 24, 2) ∧ decode cX12_rhymes 48 = .ok (.iload_n 3, 1) ∧ decode cX12_rhymes 49 = .ok (.imul, 1) ∧ decode cX12_rhymes 50 = .ok (.aload_n 0, 1) ∧ decode cX12_rhymes 51 = .ok (.getfield 109, 3) := by decide +kernel
theorem dX12_rhymes_35 : decode cX12_rhymes 35 = .ok (.getfield 312, 3) := gd_X12_rhymes_35.1
theorem dX12_rhymes_38 : decode cX12_rhymes 38 = .ok (.if_icmp .ge 64, 3) := gd_X12_rhymes_35.2.1
theorem dX12_rhymes_41 : decode cX12_rhymes 41 = .ok (.iload_n 2, 1) := gd_X12_rhymes_35.2.2.1
theorem dX12_rhymes_42 : decode cX12_rhymes 42 = .ok (.aload_n 0, 1) := gd_X12_rhymes_35.2.2.2.1
theorem dX12_rhymes_43 : decode cX12_rhymes 43 = .ok (.getfield 106, 3) := gd_X12_rhymes_35.2.2.2.2.1
theorem dX12_rhymes_46 : decode cX12_rhymes 46 = .ok (.bipush 24, 2) := gd_X12_rhymes_35.2.2.2.2.2.1
theorem dX12_rhymes_48 : decode cX12_rhymes 48 = .ok (.iload_n 3, 1) := gd_X12_rhymes_35.2.2.2.2.2.2.1
theorem dX12_rhymes_49 : decode cX12_rhymes 49 = .ok (.imul, 1) := gd_X12_rhymes_35.2.2.2.2.2.2.2.1
theorem dX12_rhymes_50 : decode cX12_rhymes 50 = .ok (.aload_n 0, 1) := gd_X12_rhymes_35.2.2.2.2.2.2.2.2.1
theorem dX12_rhymes_51 : decode cX12_rhymes 51 = .ok (.getfield 109, 3) := gd_X12_rhymes_35.2.2.2.2.2.2.2.2.2
theorem gd_X12_rhymes_54 : decode cX12_rhymes 54 = .ok (.iload_n 3, 1) ∧ decode cX12_rhymes 55 = .ok (.iaload, 1) ∧ decode cX12_rhymes 56 = .ok (.aload_n 0, 1) ∧ decode cX12_rhymes 57 = .ok (.getfield 106, 3) ∧ decode cX12_rhymes 60 = .ok (.bipush 24, 2) ∧ decode cX12_rhymes 62 = .ok (.iload 4, 2) ∧ decode cX12_rhymes 64 = .ok (.imul, 1) ∧ decode cX12_rhymes 65 = .ok (.aload_n 0, 1) ∧ decode cX12_rhymes 66 = .ok (.getfield 109, 3) ∧ decode cX12_rhymes 69 = .ok (.iload 4, 2) := by decide +kernel
theorem dX12_rhymes_54 : decode cX12_rhymes 54 = .ok (.iload_n 3, 1) := gd_X12_rhymes_54.1
theorem dX12_rhymes_55 : decode cX12_rhymes 55 = .ok (.iaload, 1) := gd_X12_rhymes_54.2.1
theorem dX12_rhymes_56 : decode cX12_rhymes 56 = .ok (.aload_n 0, 1) := gd_X12_rhymes_54.2.2.1
theorem dX12_rhymes_57 : decode cX12_rhymes 57 = .ok (.getfield 106, 3) := gd_X12_rhymes_54.2.2.2.1
theorem dX12_rhymes_60 : decode cX12_rhymes 60 = .ok (.bipush 24, 2) := gd_X12_rhymes_54.2.2.2.2.1
theorem dX12_rhymes_62 : decode cX12_rhymes 62 = .ok (.iload 4, 2) := gd_X12_rhymes_54.2.2.2.2.2.1
theorem dX12_rhymes_64 : decode cX12_rhymes 64 = .ok (.imul, 1) := gd_X12_rhymes_54.2.2.2.2.2.2.1
theorem dX12_rhymes_65 : decode cX12_rhymes 65 = .ok (.aload_n 0, 1) := gd_X12_rhymes_54.2.2.2.2.2.2.2.1
theorem dX12_rhymes_66 : decode cX12_rhymes 66 = .ok (.getfield 109, 3) := gd_X12_rhymes_54.2.2.2.2.2.2.2.2.1
theorem dX12_rhymes_69 : decode cX12_rhymes 69 = .ok (.iload 4, 2) := gd_X12_rhymes_54.2.2.2.2.2.2.2.2.2
theorem gd_X12_rhymes_71 : decode cX12_rhymes 71 = .ok (.iaload, 1) ∧ decode cX12_rhymes 72 = .ok (.invokestatic 331, 3) ∧ decode cX12_rhymes 75 = .ok (.ifCond .eq 18, 3) ∧ decode cX12_rhymes 78 = .ok (.aload_n 0, 1) ∧ decode cX12_rhymes 79 = .ok (.iload_n 3, 1) ∧ decode cX12_rhymes 80 = .ok (.iload 4, 2) ∧ decode cX12_rhymes 82 = .ok (.iload_n 1, 1) ∧ decode cX12_rhymes 83 = .ok (.invokevirtual 334, 3) ∧ decode cX12_rhymes 86 = .ok (.ifCond .ne 7, 3) ∧ decode cX12_rhymes 89 = .ok (.iconst 1, 1) := by decide +kernel
theorem dX12_rhymes_71 : decode cX12_rhymes 71 = .ok (.iaload, 1) := gd_X12_rhymes_71.1
theorem dX12_rhymes_72 : decode cX12_rhymes 72 = .ok (.invokestatic 331, 3) := gd_X12_rhymes_71.2.1
theorem dX12_rhymes_75 : decode cX12_rhymes 75 = .ok (.ifCond .eq 18, 3) := gd_X12_rhymes_71.2.2.1
theorem dX12_rhymes_78 : decode cX12_rhymes 78 = .ok (.aload_n 0, 1) := gd_X12_rhymes_71.2.2.2.1
theorem dX12_rhymes_79 : decode cX12_rhymes 79 = .ok (.iload_n 3, 1) := gd_X12_rhymes_71.2.2.2.2.1
theorem dX12_rhymes_80 : decode cX12_rhymes 80 = .ok (.iload 4, 2) := gd_X12_rhymes_71.2.2.2.2.2.1
theorem dX12_rhymes_82 : decode cX12_rhymes 82 = .ok (.iload_n 1, 1) := gd_X12_rhymes_71.2.2.2.2.2.2.1
theorem dX12_rhymes_83 : decode cX12_rhymes 83 = .ok (.invokevirtual 334, 3) := gd_X12_rhymes_71.2.2.2.2.2.2.2.1
theorem dX12_rhymes_86 : decode cX12_rhymes 86 = .ok (.ifCond .ne 7, 3) := gd_X12_rhymes_71.2.2.2.2.2.2.2.2.1
theorem dX12_rhymes_89 : decode cX12_rhymes 89 = .ok (.iconst 1, 1) := gd_X12_rhymes_71.2.2.2.2.2.2.2.2.2
theorem gd_X12_rhymes_90 : decode cX12_rhymes 90 = .ok (.goto 4, 3) ∧ decode cX12_rhymes 93 = .ok (.iconst 0, 1) ∧ decode cX12_rhymes 94 = .ok (.iadd, 1) ∧ decode cX12_rhymes 95 = .ok (.istore_n 2, 1) ∧ decode cX12_rhymes 96 = .ok (.iinc 4 1, 3) ∧ decode cX12_rhymes 99 = .ok (.goto (-67), 3) ∧ decode cX12_rhymes 102 = .ok (.iinc 3 1, 3) ∧ decode cX12_rhymes 105 = .ok (.goto (-86), 3) ∧ decode cX12_tell 38 = .ok (.aload_n 0, 1) ∧ decode cX12_tell 39 = .ok (.getfield 119, 3) := by decide +kernel
theorem dX12_rhymes_90 : decode cX12_rhymes 90 = .ok (.goto 4, 3) := gd_X12_rhymes_90.1
theorem dX12_rhymes_93 : decode cX12_rhymes 93 = .ok (.iconst 0, 1) := gd_X12_rhymes_90.2.1
theorem dX12_rhymes_94 : decode cX12_rhymes 94 = .ok (.iadd, 1) := gd_X12_rhymes_90.2.2.1
theorem dX12_rhymes_95 : decode cX12_rhymes 95 = .ok (.istore_n 2, 1) := gd_X12_rhymes_90.2.2.2.1
theorem dX12_rhymes_96 : decode cX12_rhymes 96 = .ok (.iinc 4 1, 3) := gd_X12_rhymes_90.2.2.2.2.1
theorem dX12_rhymes_99 : decode cX12_rhymes 99 = .ok (.goto (-67), 3) := gd_X12_rhymes_90.2.2.2.2.2.1
theorem dX12_rhymes_102 : decode cX12_rhymes 102 = .ok (.iinc 3 1, 3) := gd_X12_rhymes_90.2.2.2.2.2.2.1
theorem dX12_rhymes_105 : decode cX12_rhymes 105 = .ok (.goto (-86), 3) := gd_X12_rhymes_90.2.2.2.2.2.2.2.1
theorem dX12_tell_38 : decode cX12_tell 38 = .ok (.aload_n 0, 1) := gd_X12_rhymes_90.2.2.2.2.2.2.2.2.1
theorem dX12_tell_39 : decode cX12_tell 39 = .ok (.getfield 119, 3) := gd_X12_rhymes_90.2.2.2.2.2.2.2.2.2
theorem gd_X12_tell_42 : decode cX12_tell 42 = .ok (.bipush 7, 2) ∧ decode cX12_tell 44 = .ok (.iload 4, 2) ∧ decode cX12_tell 46 = .ok (.imul, 1) ∧ decode cX12_tell 47 = .ok (.iload_n 1, 1) ∧ decode cX12_tell 48 = .ok (.iadd, 1) ∧ decode cX12_tell 49 = .ok (.iaload, 1) ∧ decode cX12_tell 50 = .ok (.istore 5, 2) ∧ decode cX12_tell 52 = .ok (.iload_n 2, 1) ∧ decode cX12_tell 53 = .ok (.ifCond .ne 17, 3) ∧ decode cX12_tell 56 = .ok (.iload 5, 2) := by decide +kernel
theorem dX12_tell_42 : decode cX12_tell 42 = .ok (.bipush 7, 2) := gd_X12_tell_42.1
theorem dX12_tell_44 : decode cX12_tell 44 = .ok (.iload 4, 2) := gd_X12_tell_42.2.1
theorem dX12_tell_46 : decode cX12_tell 46 = .ok (.imul, 1) := gd_X12_tell_42.2.2.1
theorem dX12_tell_47 : decode cX12_tell 47 = .ok (.iload_n 1, 1) := gd_X12_tell_42.2.2.2.1
theorem dX12_tell_48 : decode cX12_tell 48 = .ok (.iadd, 1) := gd_X12_tell_42.2.2.2.2.1
theorem dX12_tell_49 : decode cX12_tell 49 = .ok (.iaload, 1) := gd_X12_tell_42.2.2.2.2.2.1
theorem dX12_tell_50 : decode cX12_tell 50 = .ok (.istore 5, 2) := gd_X12_tell_42.2.2.2.2.2.2.1
theorem dX12_tell_52 : decode cX12_tell 52 = .ok (.iload_n 2, 1) := gd_X12_tell_42.2.2.2.2.2.2.2.1
theorem dX12_tell_53 : decode cX12_tell 53 = .ok (.ifCond .ne 17, 3) := gd_X12_tell_42.2.2.2.2.2.2.2.2.1
theorem dX12_tell_56 : decode cX12_tell 56 = .ok (.iload 5, 2) := gd_X12_tell_42.2.2.2.2.2.2.2.2.2
theorem gd_X12_tell_58 : decode cX12_tell 58 = .ok (.iconst 1, 1) ∧ decode cX12_tell 59 = .ok (.if_icmp .le 7, 3) ∧ decode cX12_tell 62 = .ok (.iconst 1, 1) ∧ decode cX12_tell 63 = .ok (.goto 62, 3) ∧ decode cX12_tell 66 = .ok (.iconst 0, 1) ∧ decode cX12_tell 67 = .ok (.goto 58, 3) ∧ decode cX12_tell 70 = .ok (.iload_n 2, 1) ∧ decode cX12_tell 71 = .ok (.iconst 1, 1) ∧ decode cX12_tell 72 = .ok (.if_icmp .ne 16, 3) ∧ decode cX12_tell 75 = .ok (.iload 5, 2) := by decide +kernel
theorem dX12_tell_58 : decode cX12_tell 58 = .ok (.iconst 1, 1) := gd_X12_tell_58.1
theorem dX12_tell_59 : decode cX12_tell 59 = .ok (.if_icmp .le 7, 3) := gd_X12_tell_58.2.1
theorem dX12_tell_62 : decode cX12_tell 62 = .ok (.iconst 1, 1) := gd_X12_tell_58.2.2.1
theorem dX12_tell_63 : decode cX12_tell 63 = .ok (.goto 62, 3) := gd_X12_tell_58.2.2.2.1
theorem dX12_tell_66 : decode cX12_tell 66 = .ok (.iconst 0, 1) := gd_X12_tell_58.2.2.2.2.1
theorem dX12_tell_67 : decode cX12_tell 67 = .ok (.goto 58, 3) := gd_X12_tell_58.2.2.2.2.2.1
theorem dX12_tell_70 : decode cX12_tell 70 = .ok (.iload_n 2, 1) := gd_X12_tell_58.2.2.2.2.2.2.1
theorem dX12_tell_71 : decode cX12_tell 71 = .ok (.iconst 1, 1) := gd_X12_tell_58.2.2.2.2.2.2.2.1
theorem dX12_tell_72 : decode cX12_tell 72 = .ok (.if_icmp .ne 16, 3) := gd_X12_tell_58.2.2.2.2.2.2.2.2.1
theorem dX12_tell_75 : decode cX12_tell 75 = .ok (.iload 5, 2) := gd_X12_tell_58.2.2.2.2.2.2.2.2.2
theorem gd_X12_tell_77 : decode cX12_tell 77 = .ok (.ifCond .ne 7, 3) ∧ decode cX12_tell 80 = .ok (.iconst 1, 1) ∧ decode cX12_tell 81 = .ok (.goto 44, 3) ∧ decode cX12_tell 84 = .ok (.iconst 0, 1) ∧ decode cX12_tell 85 = .ok (.goto 40, 3) ∧ decode cX12_tell 88 = .ok (.iload 5, 2) ∧ decode cX12_tell 90 = .ok (.iconst 1, 1) ∧ decode cX12_tell 91 = .ok (.if_icmp .ne 33, 3) ∧ decode cX12_tell 94 = .ok (.aload_n 0, 1) ∧ decode cX12_tell 95 = .ok (.iload 4, 2) := by decide +kernel
theorem dX12_tell_77 : decode cX12_tell 77 = .ok (.ifCond .ne 7, 3) := gd_X12_tell_77.1
theorem dX12_tell_80 : decode cX12_tell 80 = .ok (.iconst 1, 1) := gd_X12_tell_77.2.1
theorem dX12_tell_81 : decode cX12_tell 81 = .ok (.goto 44, 3) := gd_X12_tell_77.2.2.1
theorem dX12_tell_84 : decode cX12_tell 84 = .ok (.iconst 0, 1) := gd_X12_tell_77.2.2.2.1
theorem dX12_tell_85 : decode cX12_tell 85 = .ok (.goto 40, 3) := gd_X12_tell_77.2.2.2.2.1
theorem dX12_tell_88 : decode cX12_tell 88 = .ok (.iload 5, 2) := gd_X12_tell_77.2.2.2.2.2.1
theorem dX12_tell_90 : decode cX12_tell 90 = .ok (.iconst 1, 1) := gd_X12_tell_77.2.2.2.2.2.2.1
theorem dX12_tell_91 : decode cX12_tell 91 = .ok (.if_icmp .ne 33, 3) := gd_X12_tell_77.2.2.2.2.2.2.2.1
theorem dX12_tell_94 : decode cX12_tell 94 = .ok (.aload_n 0, 1) := gd_X12_tell_77.2.2.2.2.2.2.2.2.1
theorem dX12_tell_95 : decode cX12_tell 95 = .ok (.iload 4, 2) := gd_X12_tell_77.2.2.2.2.2.2.2.2.2
theorem gd_X12_tell_97 : decode cX12_tell 97 = .ok (.iload_n 1, 1) ∧ decode cX12_tell 98 = .ok (.aload_n 0, 1) ∧ decode cX12_tell 99 = .ok (.getfield 106, 3) ∧ decode cX12_tell 102 = .ok (.bipush 24, 2) ∧ decode cX12_tell 104 = .ok (.iload 4, 2) ∧ decode cX12_tell 106 = .ok (.imul, 1) ∧ decode cX12_tell 107 = .ok (.aload_n 0, 1) ∧ decode cX12_tell 108 = .ok (.getfield 109, 3) ∧ decode cX12_tell 111 = .ok (.iload 4, 2) ∧ decode cX12_tell 113 = .ok (.iaload, 1) := by decide +kernel
theorem dX12_tell_97 : decode cX12_tell 97 = .ok (.iload_n 1, 1) := gd_X12_tell_97.1
theorem dX12_tell_98 : decode cX12_tell 98 = .ok (.aload_n 0, 1) := gd_X12_tell_97.2.1
theorem dX12_tell_99 : decode cX12_tell 99 = .ok (.getfield 106, 3) := gd_X12_tell_97.2.2.1
theorem dX12_tell_102 : decode cX12_tell 102 = .ok (.bipush 24, 2) := gd_X12_tell_97.2.2.2.1
theorem dX12_tell_104 : decode cX12_tell 104 = .ok (.iload 4, 2) := gd_X12_tell_97.2.2.2.2.1
theorem dX12_tell_106 : decode cX12_tell 106 = .ok (.imul, 1) := gd_X12_tell_97.2.2.2.2.2.1
theorem dX12_tell_107 : decode cX12_tell 107 = .ok (.aload_n 0, 1) := gd_X12_tell_97.2.2.2.2.2.2.1
theorem dX12_tell_108 : decode cX12_tell 108 = .ok (.getfield 109, 3) := gd_X12_tell_97.2.2.2.2.2.2.2.1
theorem dX12_tell_111 : decode cX12_tell 111 = .ok (.iload 4, 2) := gd_X12_tell_97.2.2.2.2.2.2.2.2.1
theorem dX12_tell_113 : decode cX12_tell 113 = .ok (.iaload, 1) := gd_X12_tell_97.2.2.2.2.2.2.2.2.2
theorem gd_X12_tell_114 : decode cX12_tell 114 = .ok (.invokevirtual 321, 3) ∧ decode cX12_tell 117 = .ok (.ifCond .eq 7, 3) ∧ decode cX12_tell 120 = .ok (.iconst 1, 1) ∧ decode cX12_tell 121 = .ok (.goto 4, 3) ∧ decode cX12_tell 124 = .ok (.iconst 0, 1) ∧ decode cX12_tell 125 = .ok (.istore 6, 2) ∧ decode cX12_tell 127 = .ok (.iload_n 3, 1) ∧ decode cX12_tell 128 = .ok (.iload 6, 2) ∧ decode cX12_tell 130 = .ok (.ifCond .eq 7, 3) ∧ decode cX12_tell 133 = .ok (.iconst 1, 1) := by decide +kernel
theorem dX12_tell_114 : decode cX12_tell 114 = .ok (.invokevirtual 321, 3) := gd_X12_tell_114.1
theorem dX12_tell_117 : decode cX12_tell 117 = .ok (.ifCond .eq 7, 3) := gd_X12_tell_114.2.1
theorem dX12_tell_120 : decode cX12_tell 120 = .ok (.iconst 1, 1) := gd_X12_tell_114.2.2.1
theorem dX12_tell_121 : decode cX12_tell 121 = .ok (.goto 4, 3) := gd_X12_tell_114.2.2.2.1
theorem dX12_tell_124 : decode cX12_tell 124 = .ok (.iconst 0, 1) := gd_X12_tell_114.2.2.2.2.1
theorem dX12_tell_125 : decode cX12_tell 125 = .ok (.istore 6, 2) := gd_X12_tell_114.2.2.2.2.2.1
theorem dX12_tell_127 : decode cX12_tell 127 = .ok (.iload_n 3, 1) := gd_X12_tell_114.2.2.2.2.2.2.1
theorem dX12_tell_128 : decode cX12_tell 128 = .ok (.iload 6, 2) := gd_X12_tell_114.2.2.2.2.2.2.2.1
theorem dX12_tell_130 : decode cX12_tell 130 = .ok (.ifCond .eq 7, 3) := gd_X12_tell_114.2.2.2.2.2.2.2.2.1
theorem dX12_tell_133 : decode cX12_tell 133 = .ok (.iconst 1, 1) := gd_X12_tell_114.2.2.2.2.2.2.2.2.2
theorem gd_X12_tell_134 : decode cX12_tell 134 = .ok (.goto 4, 3) ∧ decode cX12_tell 137 = .ok (.iconst 0, 1) ∧ decode cX12_tell 138 = .ok (.iadd, 1) ∧ decode cX12_tell 139 = .ok (.istore_n 3, 1) ∧ decode cX12_tell 140 = .ok (.iinc 4 1, 3) ∧ decode cX12_tell 143 = .ok (.goto (-114), 3) ∧ decode cX12_uses 14 = .ok (.iload_n 2, 1) ∧ decode cX12_uses 15 = .ok (.iconst 0, 1) ∧ decode cX12_uses 16 = .ok (.aload_n 0, 1) ∧ decode cX12_uses 17 = .ok (.getfield 21, 3) := by decide +kernel
theorem dX12_tell_134 : decode cX12_tell 134 = .ok (.goto 4, 3) := gd_X12_tell_134.1
theorem dX12_tell_137 : decode cX12_tell 137 = .ok (.iconst 0, 1) := gd_X12_tell_134.2.1
theorem dX12_tell_138 : decode cX12_tell 138 = .ok (.iadd, 1) := gd_X12_tell_134.2.2.1
theorem dX12_tell_139 : decode cX12_tell 139 = .ok (.istore_n 3, 1) := gd_X12_tell_134.2.2.2.1
theorem dX12_tell_140 : decode cX12_tell 140 = .ok (.iinc 4 1, 3) := gd_X12_tell_134.2.2.2.2.1
theorem dX12_tell_143 : decode cX12_tell 143 = .ok (.goto (-114), 3) := gd_X12_tell_134.2.2.2.2.2.1
theorem dX12_uses_14 : decode cX12_uses 14 = .ok (.iload_n 2, 1) := gd_X12_tell_134.2.2.2.2.2.2.1
theorem dX12_uses_15 : decode cX12_uses 15 = .ok (.iconst 0, 1) := gd_X12_tell_134.2.2.2.2.2.2.2.1
theorem dX12_uses_16 : decode cX12_uses 16 = .ok (.aload_n 0, 1) := gd_X12_tell_134.2.2.2.2.2.2.2.2.1
theorem dX12_uses_17 : decode cX12_uses 17 = .ok (.getfield 21, 3) := gd_X12_tell_134.2.2.2.2.2.2.2.2.2
theorem gd_X12_uses_20 : decode cX12_uses 20 = .ok (.iload_n 1, 1) ∧ decode cX12_uses 21 = .ok (.iaload, 1) ∧ decode cX12_uses 22 = .ok (.iconst 1, 1) ∧ decode cX12_uses 23 = .ok (.isub, 1) ∧ decode cX12_uses 24 = .ok (.invokestatic 226, 3) ∧ decode cX12_uses 27 = .ok (.ifCond .ne 6, 3) ∧ decode cX12_uses 33 = .ok (.aload_n 0, 1) ∧ decode cX12_uses 34 = .ok (.invokevirtual 315, 3) ∧ decode cX12_uses 37 = .ok (.aload_n 0, 1) ∧ decode cX12_uses 38 = .ok (.bipush 40, 2) := by decide +kernel
theorem dX12_uses_20 : decode cX12_uses 20 = .ok (.iload_n 1, 1) := gd_X12_uses_20.1
theorem dX12_uses_21 : decode cX12_uses 21 = .ok (.iaload, 1) := gd_X12_uses_20.2.1
theorem dX12_uses_22 : decode cX12_uses 22 = .ok (.iconst 1, 1) := gd_X12_uses_20.2.2.1
theorem dX12_uses_23 : decode cX12_uses 23 = .ok (.isub, 1) := gd_X12_uses_20.2.2.2.1
theorem dX12_uses_24 : decode cX12_uses 24 = .ok (.invokestatic 226, 3) := gd_X12_uses_20.2.2.2.2.1
theorem dX12_uses_27 : decode cX12_uses 27 = .ok (.ifCond .ne 6, 3) := gd_X12_uses_20.2.2.2.2.2.1
theorem dX12_uses_33 : decode cX12_uses 33 = .ok (.aload_n 0, 1) := gd_X12_uses_20.2.2.2.2.2.2.1
theorem dX12_uses_34 : decode cX12_uses 34 = .ok (.invokevirtual 315, 3) := gd_X12_uses_20.2.2.2.2.2.2.2.1
theorem dX12_uses_37 : decode cX12_uses 37 = .ok (.aload_n 0, 1) := gd_X12_uses_20.2.2.2.2.2.2.2.2.1
theorem dX12_uses_38 : decode cX12_uses 38 = .ok (.bipush 40, 2) := gd_X12_uses_20.2.2.2.2.2.2.2.2.2
theorem gd_X12_uses_40 : decode cX12_uses 40 = .ok (.iload_n 1, 1) ∧ decode cX12_uses 41 = .ok (.imul, 1) ∧ decode cX12_uses 42 = .ok (.iload_n 2, 1) ∧ decode cX12_uses 43 = .ok (.iadd, 1) ∧ decode cX12_uses 44 = .ok (.putfield 263, 3) ∧ decode cX12_uses 47 = .ok (.iconst 0, 1) ∧ decode cX12_uses 48 = .ok (.istore_n 3, 1) ∧ decode cX12_uses 49 = .ok (.iconst 0, 1) ∧ decode cX12_uses 50 = .ok (.istore 4, 2) ∧ decode cX12_uses 52 = .ok (.iload 4, 2) := by decide +kernel
theorem dX12_uses_40 : decode cX12_uses 40 = .ok (.iload_n 1, 1) := gd_X12_uses_40.1
theorem dX12_uses_41 : decode cX12_uses 41 = .ok (.imul, 1) := gd_X12_uses_40.2.1
theorem dX12_uses_42 : decode cX12_uses 42 = .ok (.iload_n 2, 1) := gd_X12_uses_40.2.2.1
theorem dX12_uses_43 : decode cX12_uses 43 = .ok (.iadd, 1) := gd_X12_uses_40.2.2.2.1
theorem dX12_uses_44 : decode cX12_uses 44 = .ok (.putfield 263, 3) := gd_X12_uses_40.2.2.2.2.1
theorem dX12_uses_47 : decode cX12_uses 47 = .ok (.iconst 0, 1) := gd_X12_uses_40.2.2.2.2.2.1
theorem dX12_uses_48 : decode cX12_uses 48 = .ok (.istore_n 3, 1) := gd_X12_uses_40.2.2.2.2.2.2.1
theorem dX12_uses_49 : decode cX12_uses 49 = .ok (.iconst 0, 1) := gd_X12_uses_40.2.2.2.2.2.2.2.1
theorem dX12_uses_50 : decode cX12_uses 50 = .ok (.istore 4, 2) := gd_X12_uses_40.2.2.2.2.2.2.2.2.1
theorem dX12_uses_52 : decode cX12_uses 52 = .ok (.iload 4, 2) := gd_X12_uses_40.2.2.2.2.2.2.2.2.2
theorem gd_X12_uses_54 : decode cX12_uses 54 = .ok (.aload_n 0, 1) ∧ decode cX12_uses 55 = .ok (.getfield 312, 3) ∧ decode cX12_uses 58 = .ok (.if_icmp .ge 100, 3) ∧ decode cX12_uses 61 = .ok (.aload_n 0, 1) ∧ decode cX12_uses 62 = .ok (.iconst 0, 1) ∧ decode cX12_uses 63 = .ok (.putfield 260, 3) ∧ decode cX12_uses 66 = .ok (.bipush 12, 2) ∧ decode cX12_uses 68 = .ok (.bipush 7, 2) ∧ decode cX12_uses 70 = .ok (.iload 4, 2) ∧ decode cX12_uses 72 = .ok (.imul, 1) := by decide +kernel
theorem dX12_uses_54 : decode cX12_uses 54 = .ok (.aload_n 0, 1) := gd_X12_uses_54.1
theorem dX12_uses_55 : decode cX12_uses 55 = .ok (.getfield 312, 3) := gd_X12_uses_54.2.1
theorem dX12_uses_58 : decode cX12_uses 58 = .ok (.if_icmp .ge 100, 3) := gd_X12_uses_54.2.2.1
theorem dX12_uses_61 : decode cX12_uses 61 = .ok (.aload_n 0, 1) := gd_X12_uses_54.2.2.2.1
theorem dX12_uses_62 : decode cX12_uses 62 = .ok (.iconst 0, 1) := gd_X12_uses_54.2.2.2.2.1
theorem dX12_uses_63 : decode cX12_uses 63 = .ok (.putfield 260, 3) := gd_X12_uses_54.2.2.2.2.2.1
theorem dX12_uses_66 : decode cX12_uses 66 = .ok (.bipush 12, 2) := gd_X12_uses_54.2.2.2.2.2.2.1
theorem dX12_uses_68 : decode cX12_uses 68 = .ok (.bipush 7, 2) := gd_X12_uses_54.2.2.2.2.2.2.2.1
theorem dX12_uses_70 : decode cX12_uses 70 = .ok (.iload 4, 2) := gd_X12_uses_54.2.2.2.2.2.2.2.2.1
theorem dX12_uses_72 : decode cX12_uses 72 = .ok (.imul, 1) := gd_X12_uses_54.2.2.2.2.2.2.2.2.2
theorem gd_X12_uses_73 : decode cX12_uses 73 = .ok (.iload_n 1, 1) ∧ decode cX12_uses 74 = .ok (.iadd, 1) ∧ decode cX12_uses 75 = .ok (.imul, 1) ∧ decode cX12_uses 76 = .ok (.istore 5, 2) ∧ decode cX12_uses 78 = .ok (.iload 5, 2) ∧ decode cX12_uses 80 = .ok (.bipush 12, 2) ∧ decode cX12_uses 82 = .ok (.bipush 7, 2) ∧ decode cX12_uses 84 = .ok (.iload 4, 2) ∧ decode cX12_uses 86 = .ok (.imul, 1) ∧ decode cX12_uses 87 = .ok (.iload_n 1, 1) := by decide +kernel
theorem dX12_uses_73 : decode cX12_uses 73 = .ok (.iload_n 1, 1) := gd_X12_uses_73.1
theorem dX12_uses_74 : decode cX12_uses 74 = .ok (.iadd, 1) := gd_X12_uses_73.2.1
theorem dX12_uses_75 : decode cX12_uses 75 = .ok (.imul, 1) := gd_X12_uses_73.2.2.1
theorem dX12_uses_76 : decode cX12_uses 76 = .ok (.istore 5, 2) := gd_X12_uses_73.2.2.2.1
theorem dX12_uses_78 : decode cX12_uses 78 = .ok (.iload 5, 2) := gd_X12_uses_73.2.2.2.2.1
theorem dX12_uses_80 : decode cX12_uses 80 = .ok (.bipush 12, 2) := gd_X12_uses_73.2.2.2.2.2.1
theorem dX12_uses_82 : decode cX12_uses 82 = .ok (.bipush 7, 2) := gd_X12_uses_73.2.2.2.2.2.2.1
theorem dX12_uses_84 : decode cX12_uses 84 = .ok (.iload 4, 2) := gd_X12_uses_73.2.2.2.2.2.2.2.1
theorem dX12_uses_86 : decode cX12_uses 86 = .ok (.imul, 1) := gd_X12_uses_73.2.2.2.2.2.2.2.2.1
theorem dX12_uses_87 : decode cX12_uses 87 = .ok (.iload_n 1, 1) := gd_X12_uses_73.2.2.2.2.2.2.2.2.2
theorem gd_X12_uses_88 : decode cX12_uses 88 = .ok (.iadd, 1) ∧ decode cX12_uses 89 = .ok (.imul, 1) ∧ decode cX12_uses 90 = .ok (.aload_n 0, 1) ∧ decode cX12_uses 91 = .ok (.getfield 119, 3) ∧ decode cX12_uses 94 = .ok (.bipush 7, 2) ∧ decode cX12_uses 96 = .ok (.iload 4, 2) ∧ decode cX12_uses 98 = .ok (.imul, 1) ∧ decode cX12_uses 99 = .ok (.iload_n 1, 1) ∧ decode cX12_uses 100 = .ok (.iadd, 1) ∧ decode cX12_uses 101 = .ok (.iaload, 1) := by decide +kernel
theorem dX12_uses_88 : decode cX12_uses 88 = .ok (.iadd, 1) := gd_X12_uses_88.1
theorem dX12_uses_89 : decode cX12_uses 89 = .ok (.imul, 1) := gd_X12_uses_88.2.1
theorem dX12_uses_90 : decode cX12_uses 90 = .ok (.aload_n 0, 1) := gd_X12_uses_88.2.2.1
theorem dX12_uses_91 : decode cX12_uses 91 = .ok (.getfield 119, 3) := gd_X12_uses_88.2.2.2.1
theorem dX12_uses_94 : decode cX12_uses 94 = .ok (.bipush 7, 2) := gd_X12_uses_88.2.2.2.2.1
theorem dX12_uses_96 : decode cX12_uses 96 = .ok (.iload 4, 2) := gd_X12_uses_88.2.2.2.2.2.1
theorem dX12_uses_98 : decode cX12_uses 98 = .ok (.imul, 1) := gd_X12_uses_88.2.2.2.2.2.2.1
theorem dX12_uses_99 : decode cX12_uses 99 = .ok (.iload_n 1, 1) := gd_X12_uses_88.2.2.2.2.2.2.2.1
theorem dX12_uses_100 : decode cX12_uses 100 = .ok (.iadd, 1) := gd_X12_uses_88.2.2.2.2.2.2.2.2.1
theorem dX12_uses_101 : decode cX12_uses 101 = .ok (.iaload, 1) := gd_X12_uses_88.2.2.2.2.2.2.2.2.2
theorem gd_X12_uses_102 : decode cX12_uses 102 = .ok (.iadd, 1) ∧ decode cX12_uses 103 = .ok (.if_icmp .ge 34, 3) ∧ decode cX12_uses 106 = .ok (.aload_n 0, 1) ∧ decode cX12_uses 107 = .ok (.aload_n 0, 1) ∧ decode cX12_uses 108 = .ok (.getfield 113, 3) ∧ decode cX12_uses 111 = .ok (.bipush 24, 2) ∧ decode cX12_uses 113 = .ok (.iload 5, 2) ∧ decode cX12_uses 115 = .ok (.imul, 1) ∧ decode cX12_uses 116 = .ok (.aload_n 0, 1) ∧ decode cX12_uses 117 = .ok (.getfield 116, 3) := by decide +kernel
theorem dX12_uses_102 : decode cX12_uses 102 = .ok (.iadd, 1) := gd_X12_uses_102.1
theorem dX12_uses_103 : decode cX12_uses 103 = .ok (.if_icmp .ge 34, 3) := gd_X12_uses_102.2.1
theorem dX12_uses_106 : decode cX12_uses 106 = .ok (.aload_n 0, 1) := gd_X12_uses_102.2.2.1
theorem dX12_uses_107 : decode cX12_uses 107 = .ok (.aload_n 0, 1) := gd_X12_uses_102.2.2.2.1
theorem dX12_uses_108 : decode cX12_uses 108 = .ok (.getfield 113, 3) := gd_X12_uses_102.2.2.2.2.1
theorem dX12_uses_111 : decode cX12_uses 111 = .ok (.bipush 24, 2) := gd_X12_uses_102.2.2.2.2.2.1
theorem dX12_uses_113 : decode cX12_uses 113 = .ok (.iload 5, 2) := gd_X12_uses_102.2.2.2.2.2.2.1
theorem dX12_uses_115 : decode cX12_uses 115 = .ok (.imul, 1) := gd_X12_uses_102.2.2.2.2.2.2.2.1
theorem dX12_uses_116 : decode cX12_uses 116 = .ok (.aload_n 0, 1) := gd_X12_uses_102.2.2.2.2.2.2.2.2.1
theorem dX12_uses_117 : decode cX12_uses 117 = .ok (.getfield 116, 3) := gd_X12_uses_102.2.2.2.2.2.2.2.2.2
theorem gd_X12_uses_120 : decode cX12_uses 120 = .ok (.iload 5, 2) ∧ decode cX12_uses 122 = .ok (.iaload, 1) ∧ decode cX12_uses 123 = .ok (.invokevirtual 290, 3) ∧ decode cX12_uses 126 = .ok (.aload_n 0, 1) ∧ decode cX12_uses 127 = .ok (.iload_n 1, 1) ∧ decode cX12_uses 128 = .ok (.invokevirtual 294, 3) ∧ decode cX12_uses 131 = .ok (.iinc 5 1, 3) ∧ decode cX12_uses 134 = .ok (.goto (-56), 3) ∧ decode cX12_uses 137 = .ok (.iload_n 3, 1) ∧ decode cX12_uses 138 = .ok (.aload_n 0, 1) := by decide +kernel
theorem dX12_uses_120 : decode cX12_uses 120 = .ok (.iload 5, 2) := gd_X12_uses_120.1
theorem dX12_uses_122 : decode cX12_uses 122 = .ok (.iaload, 1) := gd_X12_uses_120.2.1
theorem dX12_uses_123 : decode cX12_uses 123 = .ok (.invokevirtual 290, 3) := gd_X12_uses_120.2.2.1
theorem dX12_uses_126 : decode cX12_uses 126 = .ok (.aload_n 0, 1) := gd_X12_uses_120.2.2.2.1
theorem dX12_uses_127 : decode cX12_uses 127 = .ok (.iload_n 1, 1) := gd_X12_uses_120.2.2.2.2.1
theorem dX12_uses_128 : decode cX12_uses 128 = .ok (.invokevirtual 294, 3) := gd_X12_uses_120.2.2.2.2.2.1
theorem dX12_uses_131 : decode cX12_uses 131 = .ok (.iinc 5 1, 3) := gd_X12_uses_120.2.2.2.2.2.2.1
theorem dX12_uses_134 : decode cX12_uses 134 = .ok (.goto (-56), 3) := gd_X12_uses_120.2.2.2.2.2.2.2.1
theorem dX12_uses_137 : decode cX12_uses 137 = .ok (.iload_n 3, 1) := gd_X12_uses_120.2.2.2.2.2.2.2.2.1
theorem dX12_uses_138 : decode cX12_uses 138 = .ok (.aload_n 0, 1) := gd_X12_uses_120.2.2.2.2.2.2.2.2.2
theorem gd_X12_uses_139 : decode cX12_uses 139 = .ok (.getfield 260, 3) ∧ decode cX12_uses 142 = .ok (.ifCond .eq 7, 3) ∧ decode cX12_uses 145 = .ok (.iconst 1, 1) ∧ decode cX12_uses 146 = .ok (.goto 4, 3) ∧ decode cX12_uses 149 = .ok (.iconst 0, 1) ∧ decode cX12_uses 150 = .ok (.iadd, 1) ∧ decode cX12_uses 151 = .ok (.istore_n 3, 1) ∧ decode cX12_uses 152 = .ok (.iinc 4 1, 3) ∧ decode cX12_uses 155 = .ok (.goto (-103), 3) ∧ decode cX12_uses 158 = .ok (.iload_n 3, 1) := by decide +kernel
theorem dX12_uses_139 : decode cX12_uses 139 = .ok (.getfield 260, 3) := gd_X12_uses_139.1
theorem dX12_uses_142 : decode cX12_uses 142 = .ok (.ifCond .eq 7, 3) := gd_X12_uses_139.2.1
theorem dX12_uses_145 : decode cX12_uses 145 = .ok (.iconst 1, 1) := gd_X12_uses_139.2.2.1
theorem dX12_uses_146 : decode cX12_uses 146 = .ok (.goto 4, 3) := gd_X12_uses_139.2.2.2.1
theorem dX12_uses_149 : decode cX12_uses 149 = .ok (.iconst 0, 1) := gd_X12_uses_139.2.2.2.2.1
theorem dX12_uses_150 : decode cX12_uses 150 = .ok (.iadd, 1) := gd_X12_uses_139.2.2.2.2.2.1
theorem dX12_uses_151 : decode cX12_uses 151 = .ok (.istore_n 3, 1) := gd_X12_uses_139.2.2.2.2.2.2.1
theorem dX12_uses_152 : decode cX12_uses 152 = .ok (.iinc 4 1, 3) := gd_X12_uses_139.2.2.2.2.2.2.2.1
theorem dX12_uses_155 : decode cX12_uses 155 = .ok (.goto (-103), 3) := gd_X12_uses_139.2.2.2.2.2.2.2.2.1
theorem dX12_uses_158 : decode cX12_uses 158 = .ok (.iload_n 3, 1) := gd_X12_uses_139.2.2.2.2.2.2.2.2.2
theorem dX12_uses_159 : decode cX12_uses 159 = .ok (.ireturn, 1) := by decide +kernel
set_option maxHeartbeats 4000000 in
set_option maxRecDepth 100000 in
theorem bm_turn {p : Program} {l : Launch} {e : Env} {s : State} {m : MethodId} {args : Array Value} {below : List Frame} {meth : Method} {c : Code} {Q : State → Prop} {A : Nat → Prop} {dC : Nat → ClassId} {dI : Nat → Nat → Nat} {h0 : Nat} {kB kI kZ : ClassId} {q : Nat → Nat} {g : Nat → Int32} {F : Nat → Nat → Int32} {H : Heap} {locs : List Loc} {ls : Array Slot} (p0 : Int32) (p1 : Int32) (r : Int32) (c_g1 : Int32) (c_g23 : Int32) (c_g27 : Int32) (c_g30 : Int32) (c_g34 : Int32) (c_g36 : Int32) (c_g39 : Int32) (c_g44 : Int32) (c_F22 : (Nat → Int32)) (c_F24 : (Nat → Int32)) (c_F25 : (Nat → Int32)) (c_F26 : (Nat → Int32)) (c_F28 : (Nat → Int32)) (c_F29 : (Nat → Int32)) (c_F31 : (Nat → Int32)) (c_F32 : (Nat → Int32)) (c_F33 : (Nat → Int32)) (c_F37 : (Nat → Int32)) (c_F38 : (Nat → Int32)) (c_F40 : (Nat → Int32)) (c_F41 : (Nat → Int32)) (c_F42 : (Nat → Int32)) (c_F43 : (Nat → Int32)) (hr : f_turn g F p0 p1 = some (r, c_g1, c_g23, c_g27, c_g30, c_g34, c_g36, c_g39, c_g44, c_F22, c_F24, c_F25, c_F26, c_F28, c_F29, c_F31, c_F32, c_F33, c_F37, c_F38, c_F40, c_F41, c_F42, c_F43)) (hx : p.tables.exec = Jvm.exec) (hb : c.code = cX12_turn) (hml : c.maxLocals = 5) (hown : s.vm.findClass RX12 = some m.cls) (hts : ∀ w ∈ vmX12_turn, w.before args s = true) (hA : ∀ q : Nat, s.heap.size ≤ q → A q) (hK : va_K (dC, dI) vwCl (mT kB kI kZ) s) (hP : va_P (dC, dI) vwCl (mW h0 kB kI kZ q g F) H) (hD : va_D A (mW h0 kB kI kZ q g F)) (hS : va_S A s.heap H locs) (hl : lv_has ls 5 [(0, .ref h0), (1, .int p0), (2, .int p1)])
    (K : ∀ (pc : Nat) (ls : Array Slot) (rz : Int32) (c_g1z : Int32) (c_g23z : Int32) (c_g27z : Int32) (c_g30z : Int32) (c_g34z : Int32) (c_g36z : Int32) (c_g39z : Int32) (c_g44z : Int32) (c_F22z : (Nat → Int32)) (c_F24z : (Nat → Int32)) (c_F25z : (Nat → Int32)) (c_F26z : (Nat → Int32)) (c_F28z : (Nat → Int32)) (c_F29z : (Nat → Int32)) (c_F31z : (Nat → Int32)) (c_F32z : (Nat → Int32)) (c_F33z : (Nat → Int32)) (c_F37z : (Nat → Int32)) (c_F38z : (Nat → Int32)) (c_F40z : (Nat → Int32)) (c_F41z : (Nat → Int32)) (c_F42z : (Nat → Int32)) (c_F43z : (Nat → Int32)) (H : Heap) (locs : List Loc), some (rz, c_g1z, c_g23z, c_g27z, c_g30z, c_g34z, c_g36z, c_g39z, c_g44z, c_F22z, c_F24z, c_F25z, c_F26z, c_F28z, c_F29z, c_F31z, c_F32z, c_F33z, c_F37z, c_F38z, c_F40z, c_F41z, c_F42z, c_F43z) = some (r, c_g1, c_g23, c_g27, c_g30, c_g34, c_g36, c_g39, c_g44, c_F22, c_F24, c_F25, c_F26, c_F28, c_F29, c_F31, c_F32, c_F33, c_F37, c_F38, c_F40, c_F41, c_F42, c_F43) → decode cX12_turn pc = .ok (.ireturn, 1) → va_P (dC, dI) vwCl (mW h0 kB kI kZ q (upd (upd (upd (upd (upd (upd (upd (upd g 1 c_g1z) 23 c_g23z) 27 c_g27z) 30 c_g30z) 34 c_g34z) 36 c_g36z) 39 c_g39z) 44 c_g44z) (upF (upF (upF (upF (upF (upF (upF (upF (upF (upF (upF (upF (upF (upF (upF F 22 c_F22z) 24 c_F24z) 25 c_F25z) 26 c_F26z) 28 c_F28z) 29 c_F29z) 31 c_F31z) 32 c_F32z) 33 c_F33z) 37 c_F37z) 38 c_F38z) 40 c_F40z) 41 c_F41z) 42 c_F42z) 43 c_F43z)) H → va_D A (mW h0 kB kI kZ q (upd (upd (upd (upd (upd (upd (upd (upd g 1 c_g1z) 23 c_g23z) 27 c_g27z) 30 c_g30z) 34 c_g34z) 36 c_g36z) 39 c_g39z) 44 c_g44z) (upF (upF (upF (upF (upF (upF (upF (upF (upF (upF (upF (upF (upF (upF (upF F 22 c_F22z) 24 c_F24z) 25 c_F25z) 26 c_F26z) 28 c_F28z) 29 c_F29z) 31 c_F31z) 32 c_F32z) 33 c_F33z) 37 c_F37z) 38 c_F38z) 40 c_F40z) 41 c_F41z) 42 c_F42z) 43 c_F43z)) → va_S A s.heap H locs → W p l e ({ frames := 47, cells := 0, slots := 0, locals := 1146 } : Room) s m args below meth c H locs 0 0 Q (F0 m pc ls [.int rz])) : W p l e ({ frames := 47, cells := 0, slots := 0, locals := 1146 } : Room) s m args below meth c H locs 0 0 Q (F0 m 0 ls []) := by
  unfold f_turn at hr
  refine lv_aload_n hx hb dX12_turn_0 rfl (lv_at hl 0 rfl) ?_
  replace hr := b4S hr
  obtain ⟨r1z, c1_g1, c1_g23, c1_F22, hc1, hr⟩ := hr
  have hFc := fr_all hD hS hA
  refine va_calli (va_runV (As := []) (rest := []) ⟨hx, hb, hml, hown, hts⟩ (m_readWord l dC dI H.size h0 kB kI kZ q g F r1z c1_g1 c1_g23 c1_F22 hc1) (cwV 0 hts gw_X12_readWord_297 rfl rfl rfl (by decide +kernel) ⟨Nat.le_of_ble_eq_true rfl, Nat.le_of_ble_eq_true rfl⟩) ⟨fun a U g mk q => by obtain ⟨q0, q1, qP, qK, qD⟩ := q; exact ⟨q0, q1, qP, va_K.moved (u := U) (U := U.calling g mk a) (Vm.Alike.refl U.vm) qK, qD⟩, va_recv hK hP (ci := 12) (q0 := 0) rfl rfl, fun U hU hW => ⟨rfl, by rw [hU], by rw [hU]; exact hP, va_K.moved hW.alike hK, hD.weaken (fun _ _ _ _ => trivial)⟩⟩ rfl rfl hl.1 rfl (lv_room (Nat.le_of_ble_eq_true rfl)) dX12_turn_1 ⟨Nat.le_of_ble_eq_true rfl, Nat.le_of_ble_eq_true rfl⟩) hS (fun q _ h => hFc q h) hFc (fun r1 u t H1 locs ht hvm hw hB hz1 hk1 hS => ?_)
  replace hw : r1 = r1z := hw
  subst hw
  obtain ⟨hP1, hK1, hD1⟩ := hB
  rw [ht] at hP1
  obtain ⟨hP, hD⟩ := jn_all (w1 := (mW h0 kB kI kZ q (upd (upd g 1 c1_g1) 23 c1_g23) (upF F 22 c1_F22))) hFc hP1 hD1
  clear hFc hP1 hK1 hD1 hk1 hz1 ht hvm
  generalize H1 = H at hP hS ⊢
  have hP : va_P (dC, dI) vwCl (mW h0 kB kI kZ q (upd (upd g 1 c1_g1) 23 c1_g23) (upF F 22 c1_F22)) H := hP
  have hD : va_D A (mW h0 kB kI kZ q (upd (upd g 1 c1_g1) 23 c1_g23) (upF F 22 c1_F22)) := hD
  replace hr := jnS hr
  obtain ⟨j28, hj28, hr⟩ := hr
  have Jj28 : ∀ (H : Heap) (locs : List Loc) (ls : Array Slot), j28 () = some (r, c_g1, c_g23, c_g27, c_g30, c_g34, c_g36, c_g39, c_g44, c_F22, c_F24, c_F25, c_F26, c_F28, c_F29, c_F31, c_F32, c_F33, c_F37, c_F38, c_F40, c_F41, c_F42, c_F43) → va_P (dC, dI) vwCl (mW h0 kB kI kZ q (upd (upd g 1 c1_g1) 23 c1_g23) (upF F 22 c1_F22)) H → va_D A (mW h0 kB kI kZ q (upd (upd g 1 c1_g1) 23 c1_g23) (upF F 22 c1_F22)) → va_S A s.heap H locs → lv_has ls 5 [] → W p l e ({ frames := 47, cells := 0, slots := 0, locals := 1146 } : Room) s m args below meth c H locs 0 0 Q (F0 m 28 ls []) := by
    intro H locs ls hr hP hD hS hl
    rw [hj28] at hr
    refine lv_bipush (v := (-2)) hx hb dX12_turn_28 (by decide +kernel) ?_
    first | exact K 30 ls _ _ _ _ _ _ _ _ _ _ _ _ _ _ _ _ _ _ _ _ _ _ _ _ H _ hr dX12_turn_30 (sP_eq (mW_cg (by repeat (first | with_reducible rfl | with_reducible refine upd_cg ?_ | refine Eq.trans ?_ (upd_id rfl))) (by repeat (first | with_reducible rfl | with_reducible refine upF_cg ?_ | refine Eq.trans ?_ (upF_id rfl)))) hP) (sD_eq (mW_cg (by repeat (first | with_reducible rfl | with_reducible refine upd_cg ?_ | refine Eq.trans ?_ (upd_id rfl))) (by repeat (first | with_reducible rfl | with_reducible refine upF_cg ?_ | refine Eq.trans ?_ (upF_id rfl)))) hD) hS | exact K 30 ls _ _ _ _ _ _ _ _ _ _ _ _ _ _ _ _ _ _ _ _ _ _ _ _ H _ hr dX12_turn_30 hP hD hS
  refine lv_if_eq (tgt := 28) hx hb dX12_turn_4 (by decide) (fun c4 => ?_) (fun c4 => ?_)
  · replace hr := iteT c4 hr
    exact Jj28 H _ ls hr hP hD hS (lv_sub hl [] rfl)
  · replace hr := iteF c4 hr
    refine lv_aload_n hx hb dX12_turn_7 rfl (lv_at hl 0 rfl) ?_
    refine lv_iload_n hx hb dX12_turn_8 rfl (lv_at hl 1 rfl) ?_
    replace hr := b1S hr
    obtain ⟨r9z, hc9, hr⟩ := hr
    have hFc := fr_all hD hS hA
    refine va_calli (va_runV (As := [.int p0]) (rest := []) ⟨hx, hb, hml, hown, hts⟩ (m_isStage l dC dI H.size h0 kB kI kZ q (upd (upd g 1 c1_g1) 23 c1_g23) (upF F 22 c1_F22) p0 r9z hc9) (cwV 1 hts gw_X12_isStage_300 rfl rfl rfl (by decide +kernel) ⟨Nat.le_of_ble_eq_true rfl, Nat.le_of_ble_eq_true rfl⟩) ⟨fun a U g mk q => by obtain ⟨q0, q1, qP, qK, qD⟩ := q; exact ⟨q0, q1, qP, va_K.moved (u := U) (U := U.calling g mk a) (Vm.Alike.refl U.vm) qK, qD⟩, va_recv hK hP (ci := 12) (q0 := 0) rfl rfl, fun U hU hW => ⟨rfl, by rw [hU], by rw [hU]; exact hP, va_K.moved hW.alike hK, hD.weaken (fun _ _ _ _ => trivial)⟩⟩ rfl rfl hl.1 rfl (lv_room (Nat.le_of_ble_eq_true rfl)) dX12_turn_9 ⟨Nat.le_of_ble_eq_true rfl, Nat.le_of_ble_eq_true rfl⟩) hS (fun q _ h => hFc q h) hFc (fun r9 u t H1 locs ht hvm hw hB hz1 hk1 hS => ?_)
    replace hw : r9 = r9z := hw
    subst hw
    obtain ⟨hP1, hK1, hD1⟩ := hB
    rw [ht] at hP1
    obtain ⟨hP, hD⟩ := jn_all (w1 := (mW h0 kB kI kZ q (upd (upd g 1 c1_g1) 23 c1_g23) (upF F 22 c1_F22))) hFc hP1 hD1
    clear hFc hP1 hK1 hD1 hk1 hz1 ht hvm
    generalize H1 = H at hP hS ⊢
    have hP : va_P (dC, dI) vwCl (mW h0 kB kI kZ q (upd (upd g 1 c1_g1) 23 c1_g23) (upF F 22 c1_F22)) H := hP
    have hD : va_D A (mW h0 kB kI kZ q (upd (upd g 1 c1_g1) 23 c1_g23) (upF F 22 c1_F22)) := hD
    refine lv_if_eq (tgt := 28) hx hb dX12_turn_12 (by decide) (fun c12 => ?_) (fun c12 => ?_)
    · replace hr := iteT c12 hr
      exact Jj28 H _ ls hr hP hD hS (lv_sub hl [] rfl)
    · replace hr := iteF c12 hr
      refine lv_aload_n hx hb dX12_turn_15 rfl (lv_at hl 0 rfl) ?_
      refine lv_iload_n hx hb dX12_turn_16 rfl (lv_at hl 2 rfl) ?_
      replace hr := b1S hr
      obtain ⟨r17z, hc17, hr⟩ := hr
      have hFc := fr_all hD hS hA
      refine va_calli (va_runV (As := [.int p1]) (rest := []) ⟨hx, hb, hml, hown, hts⟩ (m_isStage l dC dI H.size h0 kB kI kZ q (upd (upd g 1 c1_g1) 23 c1_g23) (upF F 22 c1_F22) p1 r17z hc17) (cwV 1 hts gw_X12_isStage_300 rfl rfl rfl (by decide +kernel) ⟨Nat.le_of_ble_eq_true rfl, Nat.le_of_ble_eq_true rfl⟩) ⟨fun a U g mk q => by obtain ⟨q0, q1, qP, qK, qD⟩ := q; exact ⟨q0, q1, qP, va_K.moved (u := U) (U := U.calling g mk a) (Vm.Alike.refl U.vm) qK, qD⟩, va_recv hK hP (ci := 12) (q0 := 0) rfl rfl, fun U hU hW => ⟨rfl, by rw [hU], by rw [hU]; exact hP, va_K.moved hW.alike hK, hD.weaken (fun _ _ _ _ => trivial)⟩⟩ rfl rfl hl.1 rfl (lv_room (Nat.le_of_ble_eq_true rfl)) dX12_turn_17 ⟨Nat.le_of_ble_eq_true rfl, Nat.le_of_ble_eq_true rfl⟩) hS (fun q _ h => hFc q h) hFc (fun r17 u t H1 locs ht hvm hw hB hz1 hk1 hS => ?_)
      replace hw : r17 = r17z := hw
      subst hw
      obtain ⟨hP1, hK1, hD1⟩ := hB
      rw [ht] at hP1
      obtain ⟨hP, hD⟩ := jn_all (w1 := (mW h0 kB kI kZ q (upd (upd g 1 c1_g1) 23 c1_g23) (upF F 22 c1_F22))) hFc hP1 hD1
      clear hFc hP1 hK1 hD1 hk1 hz1 ht hvm
      generalize H1 = H at hP hS ⊢
      have hP : va_P (dC, dI) vwCl (mW h0 kB kI kZ q (upd (upd g 1 c1_g1) 23 c1_g23) (upF F 22 c1_F22)) H := hP
      have hD : va_D A (mW h0 kB kI kZ q (upd (upd g 1 c1_g1) 23 c1_g23) (upF F 22 c1_F22)) := hD
      refine lv_if_eq (tgt := 28) hx hb dX12_turn_20 (by decide) (fun c20 => ?_) (fun c20 => ?_)
      · replace hr := iteT c20 hr
        exact Jj28 H _ ls hr hP hD hS (lv_sub hl [] rfl)
      · replace hr := iteF c20 hr
        refine lv_iload_n hx hb dX12_turn_23 rfl (lv_at hl 1 rfl) ?_
        refine lv_iload_n hx hb dX12_turn_24 rfl (lv_at hl 2 rfl) ?_
        refine lv_icmp_le (tgt := 31) hx hb dX12_turn_25 (by decide) (fun c25 => ?_) (fun c25 => ?_)
        · replace hr := iteT c25 hr
          refine lv_aload_n hx hb dX12_turn_31 rfl (lv_at hl 0 rfl) ?_
          refine lv_iload_n hx hb dX12_turn_32 rfl (lv_at hl 1 rfl) ?_
          refine lv_iload_n hx hb dX12_turn_33 rfl (lv_at hl 2 rfl) ?_
          replace hr := b19S hr
          obtain ⟨c34_g23, c34_g27, c34_g30, c34_g34, c34_g36, c34_g39, c34_F22, c34_F24, c34_F25, c34_F26, c34_F28, c34_F29, c34_F31, c34_F32, c34_F33, c34_F37, c34_F38, c34_F40, c34_F41, hc34, hr⟩ := hr
          have hFc := fr_all hD hS hA
          refine va_callv (va_runV (As := [.int p0, .int p1]) (rest := []) ⟨hx, hb, hml, hown, hts⟩ (m_through l dC dI H.size h0 kB kI kZ q (upd (upd g 1 c1_g1) 23 c1_g23) (upF F 22 c1_F22) p0 p1 c34_g23 c34_g27 c34_g30 c34_g34 c34_g36 c34_g39 c34_F22 c34_F24 c34_F25 c34_F26 c34_F28 c34_F29 c34_F31 c34_F32 c34_F33 c34_F37 c34_F38 c34_F40 c34_F41 hc34) (cwV 2 hts gw_X12_through_303 rfl rfl rfl (by decide +kernel) ⟨Nat.le_of_ble_eq_true rfl, Nat.le_of_ble_eq_true rfl⟩) ⟨fun a U g mk q => by obtain ⟨q0, q1, qP, qK, qD⟩ := q; exact ⟨q0, q1, qP, va_K.moved (u := U) (U := U.calling g mk a) (Vm.Alike.refl U.vm) qK, qD⟩, va_recv hK hP (ci := 12) (q0 := 0) rfl rfl, fun U hU hW => ⟨rfl, by rw [hU], by rw [hU]; exact hP, va_K.moved hW.alike hK, hD.weaken (fun _ _ _ _ => trivial)⟩⟩ rfl rfl hl.1 rfl (lv_room (Nat.le_of_ble_eq_true rfl)) dX12_turn_34 ⟨Nat.le_of_ble_eq_true rfl, Nat.le_of_ble_eq_true rfl⟩) hS (fun q _ h => hFc q h) hFc (fun u t H1 locs ht hvm hw hB hz1 hk1 hS => ?_)
          obtain ⟨hP1, hK1, hD1⟩ := hB
          rw [ht] at hP1
          obtain ⟨hP, hD⟩ := jn_all (w1 := (mW h0 kB kI kZ q (upd (upd (upd (upd (upd (upd (upd g 1 c1_g1) 23 c34_g23) 27 c34_g27) 30 c34_g30) 34 c34_g34) 36 c34_g36) 39 c34_g39) (upF (upF (upF (upF (upF (upF (upF (upF (upF (upF (upF (upF (upF F 22 c34_F22) 24 c34_F24) 25 c34_F25) 26 c34_F26) 28 c34_F28) 29 c34_F29) 31 c34_F31) 32 c34_F32) 33 c34_F33) 37 c34_F37) 38 c34_F38) 40 c34_F40) 41 c34_F41))) hFc hP1 hD1
          clear hFc hP1 hK1 hD1 hk1 hz1 ht hvm
          generalize H1 = H at hP hS ⊢
          have hP : va_P (dC, dI) vwCl (mW h0 kB kI kZ q (upd (upd (upd (upd (upd (upd (upd g 1 c1_g1) 23 c34_g23) 27 c34_g27) 30 c34_g30) 34 c34_g34) 36 c34_g36) 39 c34_g39) (upF (upF (upF (upF (upF (upF (upF (upF (upF (upF (upF (upF (upF F 22 c34_F22) 24 c34_F24) 25 c34_F25) 26 c34_F26) 28 c34_F28) 29 c34_F29) 31 c34_F31) 32 c34_F32) 33 c34_F33) 37 c34_F37) 38 c34_F38) 40 c34_F40) 41 c34_F41)) H := hP
          have hD : va_D A (mW h0 kB kI kZ q (upd (upd (upd (upd (upd (upd (upd g 1 c1_g1) 23 c34_g23) 27 c34_g27) 30 c34_g30) 34 c34_g34) 36 c34_g36) 39 c34_g39) (upF (upF (upF (upF (upF (upF (upF (upF (upF (upF (upF (upF (upF F 22 c34_F22) 24 c34_F24) 25 c34_F25) 26 c34_F26) 28 c34_F28) 29 c34_F29) 31 c34_F31) 32 c34_F32) 33 c34_F33) 37 c34_F37) 38 c34_F38) 40 c34_F40) 41 c34_F41)) := hD
          refine lv_aload_n hx hb dX12_turn_37 rfl (lv_at hl 0 rfl) ?_
          refine lv_aload_n hx hb dX12_turn_38 rfl (lv_at hl 0 rfl) ?_
          refine va_get (D := (dC, dI)) (ci := 12) (v := .int c34_g39) (C := RX12) (T := TX12) (N := 71) hx hb hts inX12 hown hK hP 0 rfl rfl 39 (by decide) (hts (.fieldLink RX12 287 "SpellTurnerModel" "nows" "I") im_176) (fun _ h9 => h9) rfl dX12_turn_39 ?_
          refine va_put (D := (dC, dI)) (ci := 12) (v := .int c34_g39) (ty := .int) (C := RX12) (T := TX12) (N := 71) hx hb hts inX12 tyX12 tyX12_ok nmX12 hown hK hP hD hS 0 rfl rfl 44 (by decide) (hts (.fieldLink RX12 306 "SpellTurnerModel" "tolds" "I") im_77) (fun _ h9 => h9) rfl (by decide +kernel) rfl rfl (Nat.le_of_ble_eq_true rfl) dX12_turn_42 (fun H locs hP hD hS => ?_)
          have hP : va_P (dC, dI) vwCl (mW h0 kB kI kZ q (upd (upd (upd (upd (upd (upd (upd (upd g 1 c1_g1) 23 c34_g23) 27 c34_g27) 30 c34_g30) 34 c34_g34) 36 c34_g36) 39 c34_g39) 44 c34_g39) (upF (upF (upF (upF (upF (upF (upF (upF (upF (upF (upF (upF (upF F 22 c34_F22) 24 c34_F24) 25 c34_F25) 26 c34_F26) 28 c34_F28) 29 c34_F29) 31 c34_F31) 32 c34_F32) 33 c34_F33) 37 c34_F37) 38 c34_F38) 40 c34_F40) 41 c34_F41)) H := by first | exact sP_g44 hP rfl | exact sP_g44 hP upd_same | exact hP
          have hD : va_D A (mW h0 kB kI kZ q (upd (upd (upd (upd (upd (upd (upd (upd g 1 c1_g1) 23 c34_g23) 27 c34_g27) 30 c34_g30) 34 c34_g34) 36 c34_g36) 39 c34_g39) 44 c34_g39) (upF (upF (upF (upF (upF (upF (upF (upF (upF (upF (upF (upF (upF F 22 c34_F22) 24 c34_F24) 25 c34_F25) 26 c34_F26) 28 c34_F28) 29 c34_F29) 31 c34_F31) 32 c34_F32) 33 c34_F33) 37 c34_F37) 38 c34_F38) 40 c34_F40) 41 c34_F41)) := by first | exact sD_g44 hD rfl | exact sD_g44 hD upd_same | exact hD
          refine lv_iconst (v := 0) hx hb dX12_turn_45 (by decide +kernel) ?_
          refine lv_istore_n (lv' := [(3, .int 0), (0, .ref h0), (1, .int p0), (2, .int p1)]) hx hb dX12_turn_46 rfl hl (by decide) rfl (fun ls hl => ?_)
          have lp47 : ∀ (n47 : Nat) (y47_3 : Int32) (d47_F42 : (Nat → Int32)) (d47_F43 : (Nat → Int32)) (H : Heap) (locs : List Loc) (ls : Array Slot), L_turn_47 c1_g1 c34_g23 c34_g27 c34_g30 c34_g34 c34_g36 c34_g39 c34_F22 c34_F24 c34_F25 c34_F26 c34_F28 c34_F29 c34_F31 c34_F32 c34_F33 c34_F37 c34_F38 c34_F40 c34_F41 n47 y47_3 d47_F42 d47_F43 = some (r, c_g1, c_g23, c_g27, c_g30, c_g34, c_g36, c_g39, c_g44, c_F22, c_F24, c_F25, c_F26, c_F28, c_F29, c_F31, c_F32, c_F33, c_F37, c_F38, c_F40, c_F41, c_F42, c_F43) → va_P (dC, dI) vwCl (mW h0 kB kI kZ q (upd (upd (upd (upd (upd (upd (upd (upd g 1 c1_g1) 23 c34_g23) 27 c34_g27) 30 c34_g30) 34 c34_g34) 36 c34_g36) 39 c34_g39) 44 c34_g39) (upF (upF (upF (upF (upF (upF (upF (upF (upF (upF (upF (upF (upF (upF (upF F 22 c34_F22) 24 c34_F24) 25 c34_F25) 26 c34_F26) 28 c34_F28) 29 c34_F29) 31 c34_F31) 32 c34_F32) 33 c34_F33) 37 c34_F37) 38 c34_F38) 40 c34_F40) 41 c34_F41) 42 d47_F42) 43 d47_F43)) H → va_D A (mW h0 kB kI kZ q (upd (upd (upd (upd (upd (upd (upd (upd g 1 c1_g1) 23 c34_g23) 27 c34_g27) 30 c34_g30) 34 c34_g34) 36 c34_g36) 39 c34_g39) 44 c34_g39) (upF (upF (upF (upF (upF (upF (upF (upF (upF (upF (upF (upF (upF (upF (upF F 22 c34_F22) 24 c34_F24) 25 c34_F25) 26 c34_F26) 28 c34_F28) 29 c34_F29) 31 c34_F31) 32 c34_F32) 33 c34_F33) 37 c34_F37) 38 c34_F38) 40 c34_F40) 41 c34_F41) 42 d47_F42) 43 d47_F43)) → va_S A s.heap H locs → lv_has ls 5 [(0, .ref h0), (3, .int y47_3)] → W p l e ({ frames := 47, cells := 0, slots := 0, locals := 1146 } : Room) s m args below meth c H locs 0 0 Q (F0 m 47 ls []) := by
            intro n47
            induction n47 with
            | zero => intro y47_3 d47_F42 d47_F43 H locs ls hr; exact nomatch (show none = some (r, c_g1, c_g23, c_g27, c_g30, c_g34, c_g36, c_g39, c_g44, c_F22, c_F24, c_F25, c_F26, c_F28, c_F29, c_F31, c_F32, c_F33, c_F37, c_F38, c_F40, c_F41, c_F42, c_F43) from hr)
            | succ n47 ih47 =>
              intro y47_3 d47_F42 d47_F43 H locs ls hr hP hD hS hl
              replace hr : B_turn_47 c1_g1 c34_g23 c34_g27 c34_g30 c34_g34 c34_g36 c34_g39 c34_F22 c34_F24 c34_F25 c34_F26 c34_F28 c34_F29 c34_F31 c34_F32 c34_F33 c34_F37 c34_F38 c34_F40 c34_F41 (L_turn_47 c1_g1 c34_g23 c34_g27 c34_g30 c34_g34 c34_g36 c34_g39 c34_F22 c34_F24 c34_F25 c34_F26 c34_F28 c34_F29 c34_F31 c34_F32 c34_F33 c34_F37 c34_F38 c34_F40 c34_F41 n47) y47_3 d47_F42 d47_F43 = some (r, c_g1, c_g23, c_g27, c_g30, c_g34, c_g36, c_g39, c_g44, c_F22, c_F24, c_F25, c_F26, c_F28, c_F29, c_F31, c_F32, c_F33, c_F37, c_F38, c_F40, c_F41, c_F42, c_F43) := hr
              unfold B_turn_47 at hr
              refine lv_iload_n hx hb dX12_turn_47 rfl (lv_at hl 1 rfl) ?_
              refine lv_aload_n hx hb dX12_turn_48 rfl (lv_at hl 0 rfl) ?_
              refine va_get (D := (dC, dI)) (ci := 12) (v := .int c34_g39) (C := RX12) (T := TX12) (N := 71) hx hb hts inX12 hown hK hP 0 rfl rfl 39 (by decide) (hts (.fieldLink RX12 287 "SpellTurnerModel" "nows" "I") im_176) (fun _ h9 => h9) rfl dX12_turn_49 ?_
              refine lv_icmp_ge (tgt := 117) hx hb dX12_turn_52 (by decide) (fun c52 => ?_) (fun c52 => ?_)
              · replace hr := iteT c52 hr
                refine lv_aload_n hx hb dX12_turn_117 rfl (lv_at hl 0 rfl) ?_
                refine va_get (D := (dC, dI)) (ci := 12) (v := .int c34_g39) (C := RX12) (T := TX12) (N := 71) hx hb hts inX12 hown hK hP 0 rfl rfl 39 (by decide) (hts (.fieldLink RX12 287 "SpellTurnerModel" "nows" "I") im_176) (fun _ h9 => h9) rfl dX12_turn_118 ?_
                first | exact K 121 ls _ _ _ _ _ _ _ _ _ _ _ _ _ _ _ _ _ _ _ _ _ _ _ _ H _ hr dX12_turn_121 (sP_eq (mW_cg (by repeat (first | with_reducible rfl | with_reducible refine upd_cg ?_ | refine Eq.trans ?_ (upd_id rfl))) (by repeat (first | with_reducible rfl | with_reducible refine upF_cg ?_ | refine Eq.trans ?_ (upF_id rfl)))) hP) (sD_eq (mW_cg (by repeat (first | with_reducible rfl | with_reducible refine upd_cg ?_ | refine Eq.trans ?_ (upd_id rfl))) (by repeat (first | with_reducible rfl | with_reducible refine upF_cg ?_ | refine Eq.trans ?_ (upF_id rfl)))) hD) hS | exact K 121 ls _ _ _ _ _ _ _ _ _ _ _ _ _ _ _ _ _ _ _ _ _ _ _ _ H _ hr dX12_turn_121 hP hD hS
              · replace hr := iteF c52 hr
                refine lv_aload_n hx hb dX12_turn_55 rfl (lv_at hl 0 rfl) ?_
                refine va_get (D := (dC, dI)) (ci := 12) (v := .ref (q 43)) (C := RX12) (T := TX12) (N := 71) hx hb hts inX12 hown hK hP 0 rfl rfl 43 (by decide) (hts (.fieldLink RX12 97 "SpellTurnerModel" "toldSize" "[I") im_78) (fun _ h9 => h9) rfl dX12_turn_56 ?_
                refine lv_iload_n hx hb dX12_turn_59 rfl (lv_at hl 1 rfl) ?_
                refine lv_aload_n hx hb dX12_turn_60 rfl (lv_at hl 0 rfl) ?_
                refine va_get (D := (dC, dI)) (ci := 12) (v := .ref (q 38)) (C := RX12) (T := TX12) (N := 71) hx hb hts inX12 hown hK hP 0 rfl rfl 38 (by decide) (hts (.fieldLink RX12 85 "SpellTurnerModel" "nowSize" "[I") im_175) (fun _ h9 => h9) rfl dX12_turn_61 ?_
                refine lv_iload_n hx hb dX12_turn_64 rfl (lv_at hl 1 rfl) ?_
                replace hr := iteS hr
                obtain ⟨hi65, hr⟩ := hr
                refine va_iald (f := c34_F38) hx hb hK hP 24 1 rfl rfl (inbV hi65) dX12_turn_65 ?_
                replace hr := iteS hr
                obtain ⟨hi66, hr⟩ := hr
                refine va_iast (f := d47_F43) hx hb hK hP hD hS 28 1 rfl rfl (inbV hi66) dX12_turn_66 (fun H locs hP hD hS => ?_)
                obtain ⟨w66, ew66, hP, hD⟩ : ∃ w66 : Nat → Int32, w66 = (upd d47_F43 (Int32.toNatClampNeg y47_3) (c34_F38 (Int32.toNatClampNeg y47_3))) ∧ va_P (dC, dI) vwCl (mW h0 kB kI kZ q (upd (upd (upd (upd (upd (upd (upd (upd g 1 c1_g1) 23 c34_g23) 27 c34_g27) 30 c34_g30) 34 c34_g34) 36 c34_g36) 39 c34_g39) 44 c34_g39) (upF (upF (upF (upF (upF (upF (upF (upF (upF (upF (upF (upF (upF (upF (upF F 22 c34_F22) 24 c34_F24) 25 c34_F25) 26 c34_F26) 28 c34_F28) 29 c34_F29) 31 c34_F31) 32 c34_F32) 33 c34_F33) 37 c34_F37) 38 c34_F38) 40 c34_F40) 41 c34_F41) 42 d47_F42) 43 w66)) H ∧ va_D A (mW h0 kB kI kZ q (upd (upd (upd (upd (upd (upd (upd (upd g 1 c1_g1) 23 c34_g23) 27 c34_g27) 30 c34_g30) 34 c34_g34) 36 c34_g36) 39 c34_g39) 44 c34_g39) (upF (upF (upF (upF (upF (upF (upF (upF (upF (upF (upF (upF (upF (upF (upF F 22 c34_F22) 24 c34_F24) 25 c34_F25) 26 c34_F26) 28 c34_F28) 29 c34_F29) 31 c34_F31) 32 c34_F32) 33 c34_F33) 37 c34_F37) 38 c34_F38) 40 c34_F40) 41 c34_F41) 42 d47_F42) 43 w66)) := ⟨(upd d47_F43 (Int32.toNatClampNeg y47_3) (c34_F38 (Int32.toNatClampNeg y47_3))), rfl, by first | exact sP_F43 hP upF_same | exact sP_F43 hP rfl | exact hP, by first | exact sD_F43 hD upF_same | exact sD_F43 hD rfl | exact hD⟩
                replace hr := vlS hr w66 ew66
                clear ew66
                refine lv_iconst (v := 0) hx hb dX12_turn_67 (by decide +kernel) ?_
                refine lv_istore (lv' := [(4, .int 0), (0, .ref h0), (3, .int y47_3)]) hx hb dX12_turn_68 hl (by decide) rfl (fun ls hl => ?_)
                replace hr := jnS hr
                obtain ⟨k111, hk111, hr⟩ := hr
                have Jk111 : ∀ (c111_F42 : (Nat → Int32)) (H : Heap) (locs : List Loc) (ls : Array Slot), k111 c111_F42 = some (r, c_g1, c_g23, c_g27, c_g30, c_g34, c_g36, c_g39, c_g44, c_F22, c_F24, c_F25, c_F26, c_F28, c_F29, c_F31, c_F32, c_F33, c_F37, c_F38, c_F40, c_F41, c_F42, c_F43) → va_P (dC, dI) vwCl (mW h0 kB kI kZ q (upd (upd (upd (upd (upd (upd (upd (upd g 1 c1_g1) 23 c34_g23) 27 c34_g27) 30 c34_g30) 34 c34_g34) 36 c34_g36) 39 c34_g39) 44 c34_g39) (upF (upF (upF (upF (upF (upF (upF (upF (upF (upF (upF (upF (upF (upF (upF F 22 c34_F22) 24 c34_F24) 25 c34_F25) 26 c34_F26) 28 c34_F28) 29 c34_F29) 31 c34_F31) 32 c34_F32) 33 c34_F33) 37 c34_F37) 38 c34_F38) 40 c34_F40) 41 c34_F41) 42 c111_F42) 43 w66)) H → va_D A (mW h0 kB kI kZ q (upd (upd (upd (upd (upd (upd (upd (upd g 1 c1_g1) 23 c34_g23) 27 c34_g27) 30 c34_g30) 34 c34_g34) 36 c34_g36) 39 c34_g39) 44 c34_g39) (upF (upF (upF (upF (upF (upF (upF (upF (upF (upF (upF (upF (upF (upF (upF F 22 c34_F22) 24 c34_F24) 25 c34_F25) 26 c34_F26) 28 c34_F28) 29 c34_F29) 31 c34_F31) 32 c34_F32) 33 c34_F33) 37 c34_F37) 38 c34_F38) 40 c34_F40) 41 c34_F41) 42 c111_F42) 43 w66)) → va_S A s.heap H locs → lv_has ls 5 [(0, .ref h0), (3, .int y47_3)] → W p l e ({ frames := 47, cells := 0, slots := 0, locals := 1146 } : Room) s m args below meth c H locs 0 0 Q (F0 m 111 ls []) := by
                  intro c111_F42 H locs ls hr hP hD hS hl
                  rw [hk111] at hr
                  refine lv_iinc (v := (y47_3 + 1)) (lv' := [(3, .int (y47_3 + 1)), (0, .ref h0)]) hx hb dX12_turn_111 hl (k := 1) rfl rfl (by decide) rfl (fun ls hl => ?_)
                  refine lv_goto (tgt := 47) hx hb dX12_turn_114 (by decide) ?_
                  exact ih47 (y47_3 + 1) c111_F42 w66 H _ ls hr hP hD hS (lv_sub hl [1, 0] rfl)
                have lp70 : ∀ (n70 : Nat) (y70_4 : Int32) (d70_F42 : (Nat → Int32)) (H : Heap) (locs : List Loc) (ls : Array Slot), L_turn_70 c34_F37 c34_F38 y47_3 k111 n70 y70_4 d70_F42 = some (r, c_g1, c_g23, c_g27, c_g30, c_g34, c_g36, c_g39, c_g44, c_F22, c_F24, c_F25, c_F26, c_F28, c_F29, c_F31, c_F32, c_F33, c_F37, c_F38, c_F40, c_F41, c_F42, c_F43) → va_P (dC, dI) vwCl (mW h0 kB kI kZ q (upd (upd (upd (upd (upd (upd (upd (upd g 1 c1_g1) 23 c34_g23) 27 c34_g27) 30 c34_g30) 34 c34_g34) 36 c34_g36) 39 c34_g39) 44 c34_g39) (upF (upF (upF (upF (upF (upF (upF (upF (upF (upF (upF (upF (upF (upF (upF F 22 c34_F22) 24 c34_F24) 25 c34_F25) 26 c34_F26) 28 c34_F28) 29 c34_F29) 31 c34_F31) 32 c34_F32) 33 c34_F33) 37 c34_F37) 38 c34_F38) 40 c34_F40) 41 c34_F41) 42 d70_F42) 43 w66)) H → va_D A (mW h0 kB kI kZ q (upd (upd (upd (upd (upd (upd (upd (upd g 1 c1_g1) 23 c34_g23) 27 c34_g27) 30 c34_g30) 34 c34_g34) 36 c34_g36) 39 c34_g39) 44 c34_g39) (upF (upF (upF (upF (upF (upF (upF (upF (upF (upF (upF (upF (upF (upF (upF F 22 c34_F22) 24 c34_F24) 25 c34_F25) 26 c34_F26) 28 c34_F28) 29 c34_F29) 31 c34_F31) 32 c34_F32) 33 c34_F33) 37 c34_F37) 38 c34_F38) 40 c34_F40) 41 c34_F41) 42 d70_F42) 43 w66)) → va_S A s.heap H locs → lv_has ls 5 [(0, .ref h0), (3, .int y47_3), (4, .int y70_4)] → W p l e ({ frames := 47, cells := 0, slots := 0, locals := 1146 } : Room) s m args below meth c H locs 0 0 Q (F0 m 70 ls []) := by
                  intro n70
                  induction n70 with
                  | zero => intro y70_4 d70_F42 H locs ls hr; exact nomatch (show none = some (r, c_g1, c_g23, c_g27, c_g30, c_g34, c_g36, c_g39, c_g44, c_F22, c_F24, c_F25, c_F26, c_F28, c_F29, c_F31, c_F32, c_F33, c_F37, c_F38, c_F40, c_F41, c_F42, c_F43) from hr)
                  | succ n70 ih70 =>
                    intro y70_4 d70_F42 H locs ls hr hP hD hS hl
                    replace hr : B_turn_70 c34_F37 c34_F38 y47_3 k111 (L_turn_70 c34_F37 c34_F38 y47_3 k111 n70) y70_4 d70_F42 = some (r, c_g1, c_g23, c_g27, c_g30, c_g34, c_g36, c_g39, c_g44, c_F22, c_F24, c_F25, c_F26, c_F28, c_F29, c_F31, c_F32, c_F33, c_F37, c_F38, c_F40, c_F41, c_F42, c_F43) := hr
                    unfold B_turn_70 at hr
                    refine lv_iload hx hb dX12_turn_70 (lv_at hl 2 rfl) ?_
                    refine lv_aload_n hx hb dX12_turn_72 rfl (lv_at hl 0 rfl) ?_
                    refine va_get (D := (dC, dI)) (ci := 12) (v := .ref (q 38)) (C := RX12) (T := TX12) (N := 71) hx hb hts inX12 hown hK hP 0 rfl rfl 38 (by decide) (hts (.fieldLink RX12 85 "SpellTurnerModel" "nowSize" "[I") im_175) (fun _ h9 => h9) rfl dX12_turn_73 ?_
                    refine lv_iload_n hx hb dX12_turn_76 rfl (lv_at hl 1 rfl) ?_
                    replace hr := iteS hr
                    obtain ⟨hi77, hr⟩ := hr
                    refine va_iald (f := c34_F38) hx hb hK hP 24 1 rfl rfl (inbV hi77) dX12_turn_77 ?_
                    refine lv_icmp_ge (tgt := 111) hx hb dX12_turn_78 (by decide) (fun c78 => ?_) (fun c78 => ?_)
                    · replace hr := iteT c78 hr
                      exact Jk111 d70_F42 H _ ls hr hP hD hS (lv_sub hl [0, 1] rfl)
                    · replace hr := iteF c78 hr
                      refine lv_aload_n hx hb dX12_turn_81 rfl (lv_at hl 0 rfl) ?_
                      refine va_get (D := (dC, dI)) (ci := 12) (v := .ref (q 42)) (C := RX12) (T := TX12) (N := 71) hx hb hts inX12 hown hK hP 0 rfl rfl 42 (by decide) (hts (.fieldLink RX12 94 "SpellTurnerModel" "told" "[B") im_79) (fun _ h9 => h9) rfl dX12_turn_82 ?_
                      refine lv_bipush (v := 24) hx hb dX12_turn_85 (by decide +kernel) ?_
                      refine lv_iload_n hx hb dX12_turn_87 rfl (lv_at hl 1 rfl) ?_
                      refine lv_imul hx hb dX12_turn_88 ?_
                      refine lv_iload hx hb dX12_turn_89 (lv_at hl 2 rfl) ?_
                      refine lv_iadd hx hb dX12_turn_91 ?_
                      refine lv_aload_n hx hb dX12_turn_92 rfl (lv_at hl 0 rfl) ?_
                      refine va_get (D := (dC, dI)) (ci := 12) (v := .ref (q 37)) (C := RX12) (T := TX12) (N := 71) hx hb hts inX12 hown hK hP 0 rfl rfl 37 (by decide) (hts (.fieldLink RX12 82 "SpellTurnerModel" "now" "[B") im_178) (fun _ h9 => h9) rfl dX12_turn_93 ?_
                      refine lv_bipush (v := 24) hx hb dX12_turn_96 (by decide +kernel) ?_
                      refine lv_iload_n hx hb dX12_turn_98 rfl (lv_at hl 1 rfl) ?_
                      refine lv_imul hx hb dX12_turn_99 ?_
                      refine lv_iload hx hb dX12_turn_100 (lv_at hl 2 rfl) ?_
                      refine lv_iadd hx hb dX12_turn_102 ?_
                      replace hr := iteS hr
                      obtain ⟨hi103, hr⟩ := hr
                      refine va_bald (f := c34_F37) hx hb hK hP 23 0 rfl rfl (inbV hi103) dX12_turn_103 ?_
                      replace hr := iteS hr
                      obtain ⟨hi104, hr⟩ := hr
                      refine va_bast (f := d70_F42) hx hb hK hP hD hS 27 0 rfl rfl (inbV hi104) dX12_turn_104 (fun H locs hP hD hS => ?_)
                      obtain ⟨w104, ew104, hP, hD⟩ : ∃ w104 : Nat → Int32, w104 = (upd d70_F42 (Int32.toNatClampNeg ((24 * y47_3) + y70_4)) (vp_nar .byte (c34_F37 (Int32.toNatClampNeg ((24 * y47_3) + y70_4))))) ∧ va_P (dC, dI) vwCl (mW h0 kB kI kZ q (upd (upd (upd (upd (upd (upd (upd (upd g 1 c1_g1) 23 c34_g23) 27 c34_g27) 30 c34_g30) 34 c34_g34) 36 c34_g36) 39 c34_g39) 44 c34_g39) (upF (upF (upF (upF (upF (upF (upF (upF (upF (upF (upF (upF (upF (upF (upF F 22 c34_F22) 24 c34_F24) 25 c34_F25) 26 c34_F26) 28 c34_F28) 29 c34_F29) 31 c34_F31) 32 c34_F32) 33 c34_F33) 37 c34_F37) 38 c34_F38) 40 c34_F40) 41 c34_F41) 42 w104) 43 w66)) H ∧ va_D A (mW h0 kB kI kZ q (upd (upd (upd (upd (upd (upd (upd (upd g 1 c1_g1) 23 c34_g23) 27 c34_g27) 30 c34_g30) 34 c34_g34) 36 c34_g36) 39 c34_g39) 44 c34_g39) (upF (upF (upF (upF (upF (upF (upF (upF (upF (upF (upF (upF (upF (upF (upF F 22 c34_F22) 24 c34_F24) 25 c34_F25) 26 c34_F26) 28 c34_F28) 29 c34_F29) 31 c34_F31) 32 c34_F32) 33 c34_F33) 37 c34_F37) 38 c34_F38) 40 c34_F40) 41 c34_F41) 42 w104) 43 w66)) := ⟨(upd d70_F42 (Int32.toNatClampNeg ((24 * y47_3) + y70_4)) (vp_nar .byte (c34_F37 (Int32.toNatClampNeg ((24 * y47_3) + y70_4))))), rfl, by first | exact sP_F42 hP (upF_in (by decide) upF_same) | exact sP_F42 hP (upF_in (by decide) rfl) | exact hP, by first | exact sD_F42 hD (upF_in (by decide) upF_same) | exact sD_F42 hD (upF_in (by decide) rfl) | exact hD⟩
                      replace hr := vlS hr w104 ew104
                      clear ew104
                      refine lv_iinc (v := (y70_4 + 1)) (lv' := [(4, .int (y70_4 + 1)), (0, .ref h0), (3, .int y47_3)]) hx hb dX12_turn_105 hl (k := 2) rfl rfl (by decide) rfl (fun ls hl => ?_)
                      refine lv_goto (tgt := 70) hx hb dX12_turn_108 (by decide) ?_
                      exact ih70 (y70_4 + 1) w104 H _ ls hr hP hD hS (lv_sub hl [1, 2, 0] rfl)
                exact lp70 NN 0 d47_F42 H _ ls hr hP hD hS (lv_sub hl [1, 2, 0] rfl)
          first | exact lp47 NN 0 (F 42) (F 43) H _ ls hr (sP_eq (mW_cg (by repeat (first | with_reducible rfl | with_reducible refine upd_cg ?_ | refine Eq.trans ?_ (upd_id rfl))) (by repeat (first | with_reducible rfl | with_reducible refine upF_cg ?_ | refine Eq.trans ?_ (upF_id rfl)))) hP) (sD_eq (mW_cg (by repeat (first | with_reducible rfl | with_reducible refine upd_cg ?_ | refine Eq.trans ?_ (upd_id rfl))) (by repeat (first | with_reducible rfl | with_reducible refine upF_cg ?_ | refine Eq.trans ?_ (upF_id rfl)))) hD) hS (lv_sub hl [1, 0] rfl) | exact lp47 NN 0 (F 42) (F 43) H _ ls hr hP hD hS (lv_sub hl [1, 0] rfl)
        · replace hr := iteF c25 hr
          exact Jj28 H _ ls hr hP hD hS (lv_sub hl [] rfl)
set_option maxHeartbeats 4000000 in
set_option maxRecDepth 100000 in
theorem m_turn (l : Launch) (dC : Nat → ClassId) (dI : Nat → Nat → Nat) (sz : Nat) (h0 : Nat) (kB kI kZ : ClassId) (q : Nat → Nat) (g : Nat → Int32) (F : Nat → Nat → Int32) (p0 : Int32) (p1 : Int32) (r : Int32) (c_g1 : Int32) (c_g23 : Int32) (c_g27 : Int32) (c_g30 : Int32) (c_g34 : Int32) (c_g36 : Int32) (c_g39 : Int32) (c_g44 : Int32) (c_F22 : (Nat → Int32)) (c_F24 : (Nat → Int32)) (c_F25 : (Nat → Int32)) (c_F26 : (Nat → Int32)) (c_F28 : (Nat → Int32)) (c_F29 : (Nat → Int32)) (c_F31 : (Nat → Int32)) (c_F32 : (Nat → Int32)) (c_F33 : (Nat → Int32)) (c_F37 : (Nat → Int32)) (c_F38 : (Nat → Int32)) (c_F40 : (Nat → Int32)) (c_F41 : (Nat → Int32)) (c_F42 : (Nat → Int32)) (c_F43 : (Nat → Int32)) (hr : f_turn g F p0 p1 = some (r, c_g1, c_g23, c_g27, c_g30, c_g34, c_g36, c_g39, c_g44, c_F22, c_F24, c_F25, c_F26, c_F28, c_F29, c_F31, c_F32, c_F33, c_F37, c_F38, c_F40, c_F41, c_F42, c_F43)) : Met l yX12_turn vmX12_turn ({ frames := 47, cells := 0, slots := 0, locals := 1146 } : Room) (va_Pc [.ref h0, .int p0, .int p1] (fun U => U.heap.size = sz ∧ va_P (dC, dI) vwCl (mW h0 kB kI kZ q g F) U.heap ∧ va_K (dC, dI) vwCl (mT kB kI kZ) U ∧ va_D (fun _ => True) (mW h0 kB kI kZ q g F))) (va_Qi (fun (rz : Int32) (_ : Unit) => rz = r) (fun _ t => va_P (dC, dI) vwCl (mW h0 kB kI kZ q (upd (upd (upd (upd (upd (upd (upd (upd g 1 c_g1) 23 c_g23) 27 c_g27) 30 c_g30) 34 c_g34) 36 c_g36) 39 c_g39) 44 c_g44) (upF (upF (upF (upF (upF (upF (upF (upF (upF (upF (upF (upF (upF (upF (upF F 22 c_F22) 24 c_F24) 25 c_F25) 26 c_F26) 28 c_F28) 29 c_F29) 31 c_F31) 32 c_F32) 33 c_F33) 37 c_F37) 38 c_F38) 40 c_F40) 41 c_F41) 42 c_F42) 43 c_F43)) t.heap ∧ va_K (dC, dI) vwCl (mT kB kI kZ) t ∧ va_D (va_A (mW h0 kB kI kZ q g F) sz) (mW h0 kB kI kZ q (upd (upd (upd (upd (upd (upd (upd (upd g 1 c_g1) 23 c_g23) 27 c_g27) 30 c_g30) 34 c_g34) 36 c_g36) 39 c_g39) 44 c_g44) (upF (upF (upF (upF (upF (upF (upF (upF (upF (upF (upF (upF (upF (upF (upF F 22 c_F22) 24 c_F24) 25 c_F25) 26 c_F26) 28 c_F28) 29 c_F29) 31 c_F31) 32 c_F32) 33 c_F33) 37 c_F37) 38 c_F38) 40 c_F40) 41 c_F41) 42 c_F42) 43 c_F43))) (va_A (mW h0 kB kI kZ q g F) sz)) 0 0 (va_A (mW h0 kB kI kZ q g F) sz) := by
  refine Met.ofW (cc := cX12_turn) (maxL := 5) (ret := (some .int)) (by decide) rfl ?_
  intro p e s m args below meth c s₁ B hml hv
  obtain ⟨rfl, hsz, hP, hK, hD0⟩ := hv
  have hx := B.exec
  have hb := B.bytes
  have hrt := B.returns
  have hts := atoms_spec (ws := vmX12_turn) B.pre
  have hown : s.vm.findClass RX12 = some m.cls := findClass_of_methodNamed B.named
  subst hsz
  have hD := hD0.self (sz := s.heap.size)
  generalize hAe : va_A (mW h0 kB kI kZ q g F) s.heap.size = A at hD ⊢
  have hA : ∀ q : Nat, s.heap.size ≤ q → A q := fun q h => by rw [← hAe]; exact Or.inr h
  have hS : va_S A s.heap s.heap [] := va_S.rf
  have hl := lv_entry ([.ref h0, .int p0, .int p1]) (n := 5) (Nat.le_of_ble_eq_true rfl)
  rw [lg_entry_eq]
  generalize (lg_sl ([.ref h0, .int p0, .int p1]) ++ List.replicate (5 - (lg_sl ([.ref h0, .int p0, .int p1])).length) Slot.unset).toArray = ls at hl ⊢
  exact bm_turn p0 p1 r c_g1 c_g23 c_g27 c_g30 c_g34 c_g36 c_g39 c_g44 c_F22 c_F24 c_F25 c_F26 c_F28 c_F29 c_F31 c_F32 c_F33 c_F37 c_F38 c_F40 c_F41 c_F42 c_F43 hr hx hb hml hown hts hA hK hP hD hS hl (fun pc ls rz c_g1z c_g23z c_g27z c_g30z c_g34z c_g36z c_g39z c_g44z c_F22z c_F24z c_F25z c_F26z c_F28z c_F29z c_F31z c_F32z c_F33z c_F37z c_F38z c_F40z c_F41z c_F42z c_F43z H locs he hd hP hD hS => by cases he; exact W.iret (v := r) hx hb hrt (fun t ht hW => ⟨⟨r, (), rfl, rfl, by rw [ht]; exact hP, va_K.moved hW.alike hK, hD⟩, hS.F ht⟩) hS.2.2 hd)
set_option maxHeartbeats 4000000 in
set_option maxRecDepth 100000 in
theorem bm_partings {p : Program} {l : Launch} {e : Env} {s : State} {m : MethodId} {args : Array Value} {below : List Frame} {meth : Method} {c : Code} {Q : State → Prop} {A : Nat → Prop} {dC : Nat → ClassId} {dI : Nat → Nat → Nat} {h0 : Nat} {kB kI kZ : ClassId} {q : Nat → Nat} {g : Nat → Int32} {F : Nat → Nat → Int32} {H : Heap} {locs : List Loc} {ls : Array Slot} (p0 : Int32) (r : Int32) (c_g1 : Int32) (c_g23 : Int32) (c_g27 : Int32) (c_g47 : Int32) (c_F22 : (Nat → Int32)) (c_F24 : (Nat → Int32)) (c_F25 : (Nat → Int32)) (c_F26 : (Nat → Int32)) (c_F28 : (Nat → Int32)) (c_F45 : (Nat → Int32)) (c_F46 : (Nat → Int32)) (hr : f_partings g F p0 = some (r, c_g1, c_g23, c_g27, c_g47, c_F22, c_F24, c_F25, c_F26, c_F28, c_F45, c_F46)) (hx : p.tables.exec = Jvm.exec) (hb : c.code = cX12_partings) (hml : c.maxLocals = 5) (hown : s.vm.findClass RX12 = some m.cls) (hts : ∀ w ∈ vmX12_partings, w.before args s = true) (hA : ∀ q : Nat, s.heap.size ≤ q → A q) (hK : va_K (dC, dI) vwCl (mT kB kI kZ) s) (hP : va_P (dC, dI) vwCl (mW h0 kB kI kZ q g F) H) (hD : va_D A (mW h0 kB kI kZ q g F)) (hS : va_S A s.heap H locs) (hl : lv_has ls 5 [(0, .ref h0), (1, .int p0)])
    (K : ∀ (pc : Nat) (ls : Array Slot) (rz : Int32) (c_g1z : Int32) (c_g23z : Int32) (c_g27z : Int32) (c_g47z : Int32) (c_F22z : (Nat → Int32)) (c_F24z : (Nat → Int32)) (c_F25z : (Nat → Int32)) (c_F26z : (Nat → Int32)) (c_F28z : (Nat → Int32)) (c_F45z : (Nat → Int32)) (c_F46z : (Nat → Int32)) (H : Heap) (locs : List Loc), some (rz, c_g1z, c_g23z, c_g27z, c_g47z, c_F22z, c_F24z, c_F25z, c_F26z, c_F28z, c_F45z, c_F46z) = some (r, c_g1, c_g23, c_g27, c_g47, c_F22, c_F24, c_F25, c_F26, c_F28, c_F45, c_F46) → decode cX12_partings pc = .ok (.ireturn, 1) → va_P (dC, dI) vwCl (mW h0 kB kI kZ q (upd (upd (upd (upd g 1 c_g1z) 23 c_g23z) 27 c_g27z) 47 c_g47z) (upF (upF (upF (upF (upF (upF (upF F 22 c_F22z) 24 c_F24z) 25 c_F25z) 26 c_F26z) 28 c_F28z) 45 c_F45z) 46 c_F46z)) H → va_D A (mW h0 kB kI kZ q (upd (upd (upd (upd g 1 c_g1z) 23 c_g23z) 27 c_g27z) 47 c_g47z) (upF (upF (upF (upF (upF (upF (upF F 22 c_F22z) 24 c_F24z) 25 c_F25z) 26 c_F26z) 28 c_F28z) 45 c_F45z) 46 c_F46z)) → va_S A s.heap H locs → W p l e ({ frames := 45, cells := 0, slots := 0, locals := 1093 } : Room) s m args below meth c H locs 0 0 Q (F0 m pc ls [.int rz])) : W p l e ({ frames := 45, cells := 0, slots := 0, locals := 1093 } : Room) s m args below meth c H locs 0 0 Q (F0 m 0 ls []) := by
  unfold f_partings at hr
  refine lv_aload_n hx hb dX12_partings_0 rfl (lv_at hl 0 rfl) ?_
  replace hr := b4S hr
  obtain ⟨r1z, c1_g1, c1_g23, c1_F22, hc1, hr⟩ := hr
  have hFc := fr_all hD hS hA
  refine va_calli (va_runV (As := []) (rest := []) ⟨hx, hb, hml, hown, hts⟩ (m_readWord l dC dI H.size h0 kB kI kZ q g F r1z c1_g1 c1_g23 c1_F22 hc1) (cwV 0 hts gw_X12_readWord_297 rfl rfl rfl (by decide +kernel) ⟨Nat.le_of_ble_eq_true rfl, Nat.le_of_ble_eq_true rfl⟩) ⟨fun a U g mk q => by obtain ⟨q0, q1, qP, qK, qD⟩ := q; exact ⟨q0, q1, qP, va_K.moved (u := U) (U := U.calling g mk a) (Vm.Alike.refl U.vm) qK, qD⟩, va_recv hK hP (ci := 12) (q0 := 0) rfl rfl, fun U hU hW => ⟨rfl, by rw [hU], by rw [hU]; exact hP, va_K.moved hW.alike hK, hD.weaken (fun _ _ _ _ => trivial)⟩⟩ rfl rfl hl.1 rfl (lv_room (Nat.le_of_ble_eq_true rfl)) dX12_partings_1 ⟨Nat.le_of_ble_eq_true rfl, Nat.le_of_ble_eq_true rfl⟩) hS (fun q _ h => hFc q h) hFc (fun r1 u t H1 locs ht hvm hw hB hz1 hk1 hS => ?_)
  replace hw : r1 = r1z := hw
  subst hw
  obtain ⟨hP1, hK1, hD1⟩ := hB
  rw [ht] at hP1
  obtain ⟨hP, hD⟩ := jn_all (w1 := (mW h0 kB kI kZ q (upd (upd g 1 c1_g1) 23 c1_g23) (upF F 22 c1_F22))) hFc hP1 hD1
  clear hFc hP1 hK1 hD1 hk1 hz1 ht hvm
  generalize H1 = H at hP hS ⊢
  have hP : va_P (dC, dI) vwCl (mW h0 kB kI kZ q (upd (upd g 1 c1_g1) 23 c1_g23) (upF F 22 c1_F22)) H := hP
  have hD : va_D A (mW h0 kB kI kZ q (upd (upd g 1 c1_g1) 23 c1_g23) (upF F 22 c1_F22)) := hD
  replace hr := jnS hr
  obtain ⟨j21, hj21, hr⟩ := hr
  have Jj21 : ∀ (H : Heap) (locs : List Loc) (ls : Array Slot), j21 () = some (r, c_g1, c_g23, c_g27, c_g47, c_F22, c_F24, c_F25, c_F26, c_F28, c_F45, c_F46) → va_P (dC, dI) vwCl (mW h0 kB kI kZ q (upd (upd g 1 c1_g1) 23 c1_g23) (upF F 22 c1_F22)) H → va_D A (mW h0 kB kI kZ q (upd (upd g 1 c1_g1) 23 c1_g23) (upF F 22 c1_F22)) → va_S A s.heap H locs → lv_has ls 5 [] → W p l e ({ frames := 45, cells := 0, slots := 0, locals := 1093 } : Room) s m args below meth c H locs 0 0 Q (F0 m 21 ls []) := by
    intro H locs ls hr hP hD hS hl
    rw [hj21] at hr
    refine lv_bipush (v := (-2)) hx hb dX12_partings_21 (by decide +kernel) ?_
    first | exact K 23 ls _ _ _ _ _ _ _ _ _ _ _ _ H _ hr dX12_partings_23 (sP_eq (mW_cg (by repeat (first | with_reducible rfl | with_reducible refine upd_cg ?_ | refine Eq.trans ?_ (upd_id rfl))) (by repeat (first | with_reducible rfl | with_reducible refine upF_cg ?_ | refine Eq.trans ?_ (upF_id rfl)))) hP) (sD_eq (mW_cg (by repeat (first | with_reducible rfl | with_reducible refine upd_cg ?_ | refine Eq.trans ?_ (upd_id rfl))) (by repeat (first | with_reducible rfl | with_reducible refine upF_cg ?_ | refine Eq.trans ?_ (upF_id rfl)))) hD) hS | exact K 23 ls _ _ _ _ _ _ _ _ _ _ _ _ H _ hr dX12_partings_23 hP hD hS
  refine lv_if_eq (tgt := 21) hx hb dX12_partings_4 (by decide) (fun c4 => ?_) (fun c4 => ?_)
  · replace hr := iteT c4 hr
    exact Jj21 H _ ls hr hP hD hS (lv_sub hl [] rfl)
  · replace hr := iteF c4 hr
    refine lv_iload_n hx hb dX12_partings_7 rfl (lv_at hl 1 rfl) ?_
    refine lv_iconst (v := 0) hx hb dX12_partings_8 (by decide +kernel) ?_
    refine lv_aload_n hx hb dX12_partings_9 rfl (lv_at hl 0 rfl) ?_
    refine va_get (D := (dC, dI)) (ci := 12) (v := .int (g 9)) (C := RX12) (T := TX12) (N := 71) hx hb hts inX12 hown hK hP 0 rfl rfl 9 (by decide) (hts (.fieldLink RX12 222 "SpellTurnerModel" "reforms" "I") im_40) (fun _ h9 => h9) rfl dX12_partings_10 ?_
    refine lv_iconst (v := 1) hx hb dX12_partings_13 (by decide +kernel) ?_
    refine lv_isub hx hb dX12_partings_14 ?_
    replace hr := b1S hr
    obtain ⟨r15z, hc15, hr⟩ := hr
    have hFc := fr_all hD hS hA
    refine va_calli (va_runS (As := [.int p0, .int 0, .int ((g 9) - 1)]) (rest := []) ⟨hx, hb, hml, hown, hts⟩ (m_in l dC dI H.size h0 kB kI kZ q (upd (upd g 1 c1_g1) 23 c1_g23) (upF F 22 c1_F22) p0 0 ((g 9) - 1) r15z hc15) (va_cwS 3 hts gw_X12_in_226 rfl rfl rfl (by decide +kernel) ⟨Nat.le_of_ble_eq_true rfl, Nat.le_of_ble_eq_true rfl⟩) ⟨fun a U g mk q => by obtain ⟨q0, q1, qP, qK, qD⟩ := q; exact ⟨q0, q1, qP, va_K.moved (u := U) (U := U.calling g mk a) (Vm.Alike.refl U.vm) qK, qD⟩, fun U hU hW => ⟨rfl, by rw [hU], by rw [hU]; exact hP, va_K.moved hW.alike hK, hD.weaken (fun _ _ _ _ => trivial)⟩⟩ rfl rfl hl.1 rfl (lv_room (Nat.le_of_ble_eq_true rfl)) dX12_partings_15 ⟨Nat.le_of_ble_eq_true rfl, Nat.le_of_ble_eq_true rfl⟩) hS (fun q _ h => hFc q h) hFc (fun r15 u t H1 locs ht hvm hw hB hz1 hk1 hS => ?_)
    replace hw : r15 = r15z := hw
    subst hw
    obtain ⟨hP1, hK1, hD1⟩ := hB
    rw [ht] at hP1
    obtain ⟨hP, hD⟩ := jn_all (w1 := (mW h0 kB kI kZ q (upd (upd g 1 c1_g1) 23 c1_g23) (upF F 22 c1_F22))) hFc hP1 hD1
    clear hFc hP1 hK1 hD1 hk1 hz1 ht hvm
    generalize H1 = H at hP hS ⊢
    have hP : va_P (dC, dI) vwCl (mW h0 kB kI kZ q (upd (upd g 1 c1_g1) 23 c1_g23) (upF F 22 c1_F22)) H := hP
    have hD : va_D A (mW h0 kB kI kZ q (upd (upd g 1 c1_g1) 23 c1_g23) (upF F 22 c1_F22)) := hD
    refine lv_if_ne (tgt := 24) hx hb dX12_partings_18 (by decide) (fun c18 => ?_) (fun c18 => ?_)
    · replace hr := iteF c18 hr
      refine lv_aload_n hx hb dX12_partings_24 rfl (lv_at hl 0 rfl) ?_
      refine lv_iload_n hx hb dX12_partings_25 rfl (lv_at hl 1 rfl) ?_
      replace hr := b1S hr
      obtain ⟨r26z, hc26, hr⟩ := hr
      have hFc := fr_all hD hS hA
      refine va_calli (va_runV (As := [.int p0]) (rest := []) ⟨hx, hb, hml, hown, hts⟩ (m_listedAs l dC dI H.size h0 kB kI kZ q (upd (upd g 1 c1_g1) 23 c1_g23) (upF F 22 c1_F22) p0 r26z hc26) (cwV 1 hts gw_X12_listedAs_277 rfl rfl rfl (by decide +kernel) ⟨Nat.le_of_ble_eq_true rfl, Nat.le_of_ble_eq_true rfl⟩) ⟨fun a U g mk q => by obtain ⟨q0, q1, qP, qK, qD⟩ := q; exact ⟨q0, q1, qP, va_K.moved (u := U) (U := U.calling g mk a) (Vm.Alike.refl U.vm) qK, qD⟩, va_recv hK hP (ci := 12) (q0 := 0) rfl rfl, fun U hU hW => ⟨rfl, by rw [hU], by rw [hU]; exact hP, va_K.moved hW.alike hK, hD.weaken (fun _ _ _ _ => trivial)⟩⟩ rfl rfl hl.1 rfl (lv_room (Nat.le_of_ble_eq_true rfl)) dX12_partings_26 ⟨Nat.le_of_ble_eq_true rfl, Nat.le_of_ble_eq_true rfl⟩) hS (fun q _ h => hFc q h) hFc (fun r26 u t H1 locs ht hvm hw hB hz1 hk1 hS => ?_)
      replace hw : r26 = r26z := hw
      subst hw
      obtain ⟨hP1, hK1, hD1⟩ := hB
      rw [ht] at hP1
      obtain ⟨hP, hD⟩ := jn_all (w1 := (mW h0 kB kI kZ q (upd (upd g 1 c1_g1) 23 c1_g23) (upF F 22 c1_F22))) hFc hP1 hD1
      clear hFc hP1 hK1 hD1 hk1 hz1 ht hvm
      generalize H1 = H at hP hS ⊢
      have hP : va_P (dC, dI) vwCl (mW h0 kB kI kZ q (upd (upd g 1 c1_g1) 23 c1_g23) (upF F 22 c1_F22)) H := hP
      have hD : va_D A (mW h0 kB kI kZ q (upd (upd g 1 c1_g1) 23 c1_g23) (upF F 22 c1_F22)) := hD
      refine lv_istore_n (lv' := [(2, .int r26), (0, .ref h0), (1, .int p0)]) hx hb dX12_partings_29 rfl hl (by decide) rfl (fun ls hl => ?_)
      refine lv_iload_n hx hb dX12_partings_30 rfl (lv_at hl 0 rfl) ?_
      refine lv_iconst (v := (-1)) hx hb dX12_partings_31 (by decide +kernel) ?_
      refine lv_icmp_eq (tgt := 57) hx hb dX12_partings_32 (by decide) (fun c32 => ?_) (fun c32 => ?_)
      · replace hr := iteT c32 hr
        refine lv_aload_n hx hb dX12_partings_57 rfl (lv_at hl 1 rfl) ?_
        refine lv_iload_n hx hb dX12_partings_58 rfl (lv_at hl 2 rfl) ?_
        replace hr := b5S hr
        obtain ⟨c59_g27, c59_F24, c59_F25, c59_F26, c59_F28, hc59, hr⟩ := hr
        have hFc := fr_all hD hS hA
        refine va_callv (va_runV (As := [.int p0]) (rest := []) ⟨hx, hb, hml, hown, hts⟩ (m_makeWays l dC dI H.size h0 kB kI kZ q (upd (upd g 1 c1_g1) 23 c1_g23) (upF F 22 c1_F22) p0 c59_g27 c59_F24 c59_F25 c59_F26 c59_F28 hc59) (cwV 1 hts gw_X12_makeWays_280 rfl rfl rfl (by decide +kernel) ⟨Nat.le_of_ble_eq_true rfl, Nat.le_of_ble_eq_true rfl⟩) ⟨fun a U g mk q => by obtain ⟨q0, q1, qP, qK, qD⟩ := q; exact ⟨q0, q1, qP, va_K.moved (u := U) (U := U.calling g mk a) (Vm.Alike.refl U.vm) qK, qD⟩, va_recv hK hP (ci := 12) (q0 := 0) rfl rfl, fun U hU hW => ⟨rfl, by rw [hU], by rw [hU]; exact hP, va_K.moved hW.alike hK, hD.weaken (fun _ _ _ _ => trivial)⟩⟩ rfl rfl hl.1 rfl (lv_room (Nat.le_of_ble_eq_true rfl)) dX12_partings_59 ⟨Nat.le_of_ble_eq_true rfl, Nat.le_of_ble_eq_true rfl⟩) hS (fun q _ h => hFc q h) hFc (fun u t H1 locs ht hvm hw hB hz1 hk1 hS => ?_)
        obtain ⟨hP1, hK1, hD1⟩ := hB
        rw [ht] at hP1
        obtain ⟨hP, hD⟩ := jn_all (w1 := (mW h0 kB kI kZ q (upd (upd (upd g 1 c1_g1) 23 c1_g23) 27 c59_g27) (upF (upF (upF (upF (upF F 22 c1_F22) 24 c59_F24) 25 c59_F25) 26 c59_F26) 28 c59_F28))) hFc hP1 hD1
        clear hFc hP1 hK1 hD1 hk1 hz1 ht hvm
        generalize H1 = H at hP hS ⊢
        have hP : va_P (dC, dI) vwCl (mW h0 kB kI kZ q (upd (upd (upd g 1 c1_g1) 23 c1_g23) 27 c59_g27) (upF (upF (upF (upF (upF F 22 c1_F22) 24 c59_F24) 25 c59_F25) 26 c59_F26) 28 c59_F28)) H := hP
        have hD : va_D A (mW h0 kB kI kZ q (upd (upd (upd g 1 c1_g1) 23 c1_g23) 27 c59_g27) (upF (upF (upF (upF (upF F 22 c1_F22) 24 c59_F24) 25 c59_F25) 26 c59_F26) 28 c59_F28)) := hD
        refine lv_aload_n hx hb dX12_partings_62 rfl (lv_at hl 1 rfl) ?_
        refine lv_aload_n hx hb dX12_partings_63 rfl (lv_at hl 1 rfl) ?_
        refine va_get (D := (dC, dI)) (ci := 12) (v := .int c59_g27) (C := RX12) (T := TX12) (N := 71) hx hb hts inX12 hown hK hP 0 rfl rfl 27 (by decide) (hts (.fieldLink RX12 241 "SpellTurnerModel" "wayMany" "I") im_134) (fun _ h9 => h9) rfl dX12_partings_64 ?_
        refine va_put (D := (dC, dI)) (ci := 12) (v := .int c59_g27) (ty := .int) (C := RX12) (T := TX12) (N := 71) hx hb hts inX12 tyX12 tyX12_ok nmX12 hown hK hP hD hS 0 rfl rfl 47 (by decide) (hts (.fieldLink RX12 309 "SpellTurnerModel" "toldWayMany" "I") im_81) (fun _ h9 => h9) rfl (by decide +kernel) rfl rfl (Nat.le_of_ble_eq_true rfl) dX12_partings_67 (fun H locs hP hD hS => ?_)
        have hP : va_P (dC, dI) vwCl (mW h0 kB kI kZ q (upd (upd (upd (upd g 1 c1_g1) 23 c1_g23) 27 c59_g27) 47 c59_g27) (upF (upF (upF (upF (upF F 22 c1_F22) 24 c59_F24) 25 c59_F25) 26 c59_F26) 28 c59_F28)) H := by first | exact sP_g47 hP rfl | exact sP_g47 hP upd_same | exact hP
        have hD : va_D A (mW h0 kB kI kZ q (upd (upd (upd (upd g 1 c1_g1) 23 c1_g23) 27 c59_g27) 47 c59_g27) (upF (upF (upF (upF (upF F 22 c1_F22) 24 c59_F24) 25 c59_F25) 26 c59_F26) 28 c59_F28)) := by first | exact sD_g47 hD rfl | exact sD_g47 hD upd_same | exact hD
        refine lv_iconst (v := 0) hx hb dX12_partings_70 (by decide +kernel) ?_
        refine lv_istore_n (lv' := [(3, .int 0), (2, .int r26), (0, .ref h0), (1, .int p0)]) hx hb dX12_partings_71 rfl hl (by decide) rfl (fun ls hl => ?_)
        have lp72 : ∀ (n72 : Nat) (y72_3 : Int32) (d72_F45 : (Nat → Int32)) (d72_F46 : (Nat → Int32)) (H : Heap) (locs : List Loc) (ls : Array Slot), L_partings_72 c1_g1 c1_g23 c1_F22 c59_g27 c59_F24 c59_F25 c59_F26 c59_F28 n72 y72_3 d72_F45 d72_F46 = some (r, c_g1, c_g23, c_g27, c_g47, c_F22, c_F24, c_F25, c_F26, c_F28, c_F45, c_F46) → va_P (dC, dI) vwCl (mW h0 kB kI kZ q (upd (upd (upd (upd g 1 c1_g1) 23 c1_g23) 27 c59_g27) 47 c59_g27) (upF (upF (upF (upF (upF (upF (upF F 22 c1_F22) 24 c59_F24) 25 c59_F25) 26 c59_F26) 28 c59_F28) 45 d72_F45) 46 d72_F46)) H → va_D A (mW h0 kB kI kZ q (upd (upd (upd (upd g 1 c1_g1) 23 c1_g23) 27 c59_g27) 47 c59_g27) (upF (upF (upF (upF (upF (upF (upF F 22 c1_F22) 24 c59_F24) 25 c59_F25) 26 c59_F26) 28 c59_F28) 45 d72_F45) 46 d72_F46)) → va_S A s.heap H locs → lv_has ls 5 [(0, .ref h0), (3, .int y72_3)] → W p l e ({ frames := 45, cells := 0, slots := 0, locals := 1093 } : Room) s m args below meth c H locs 0 0 Q (F0 m 72 ls []) := by
          intro n72
          induction n72 with
          | zero => intro y72_3 d72_F45 d72_F46 H locs ls hr; exact nomatch (show none = some (r, c_g1, c_g23, c_g27, c_g47, c_F22, c_F24, c_F25, c_F26, c_F28, c_F45, c_F46) from hr)
          | succ n72 ih72 =>
            intro y72_3 d72_F45 d72_F46 H locs ls hr hP hD hS hl
            replace hr : B_partings_72 c1_g1 c1_g23 c1_F22 c59_g27 c59_F24 c59_F25 c59_F26 c59_F28 (L_partings_72 c1_g1 c1_g23 c1_F22 c59_g27 c59_F24 c59_F25 c59_F26 c59_F28 n72) y72_3 d72_F45 d72_F46 = some (r, c_g1, c_g23, c_g27, c_g47, c_F22, c_F24, c_F25, c_F26, c_F28, c_F45, c_F46) := hr
            unfold B_partings_72 at hr
            refine lv_iload_n hx hb dX12_partings_72 rfl (lv_at hl 1 rfl) ?_
            refine lv_aload_n hx hb dX12_partings_73 rfl (lv_at hl 0 rfl) ?_
            refine va_get (D := (dC, dI)) (ci := 12) (v := .int c59_g27) (C := RX12) (T := TX12) (N := 71) hx hb hts inX12 hown hK hP 0 rfl rfl 27 (by decide) (hts (.fieldLink RX12 241 "SpellTurnerModel" "wayMany" "I") im_134) (fun _ h9 => h9) rfl dX12_partings_74 ?_
            refine lv_icmp_ge (tgt := 142) hx hb dX12_partings_77 (by decide) (fun c77 => ?_) (fun c77 => ?_)
            · replace hr := iteT c77 hr
              refine lv_aload_n hx hb dX12_partings_142 rfl (lv_at hl 0 rfl) ?_
              refine va_get (D := (dC, dI)) (ci := 12) (v := .int c59_g27) (C := RX12) (T := TX12) (N := 71) hx hb hts inX12 hown hK hP 0 rfl rfl 27 (by decide) (hts (.fieldLink RX12 241 "SpellTurnerModel" "wayMany" "I") im_134) (fun _ h9 => h9) rfl dX12_partings_143 ?_
              first | exact K 146 ls _ _ _ _ _ _ _ _ _ _ _ _ H _ hr dX12_partings_146 (sP_eq (mW_cg (by repeat (first | with_reducible rfl | with_reducible refine upd_cg ?_ | refine Eq.trans ?_ (upd_id rfl))) (by repeat (first | with_reducible rfl | with_reducible refine upF_cg ?_ | refine Eq.trans ?_ (upF_id rfl)))) hP) (sD_eq (mW_cg (by repeat (first | with_reducible rfl | with_reducible refine upd_cg ?_ | refine Eq.trans ?_ (upd_id rfl))) (by repeat (first | with_reducible rfl | with_reducible refine upF_cg ?_ | refine Eq.trans ?_ (upF_id rfl)))) hD) hS | exact K 146 ls _ _ _ _ _ _ _ _ _ _ _ _ H _ hr dX12_partings_146 hP hD hS
            · replace hr := iteF c77 hr
              refine lv_aload_n hx hb dX12_partings_80 rfl (lv_at hl 0 rfl) ?_
              refine va_get (D := (dC, dI)) (ci := 12) (v := .ref (q 46)) (C := RX12) (T := TX12) (N := 71) hx hb hts inX12 hown hK hP 0 rfl rfl 46 (by decide) (hts (.fieldLink RX12 103 "SpellTurnerModel" "toldParts" "[I") im_82) (fun _ h9 => h9) rfl dX12_partings_81 ?_
              refine lv_iload_n hx hb dX12_partings_84 rfl (lv_at hl 1 rfl) ?_
              refine lv_aload_n hx hb dX12_partings_85 rfl (lv_at hl 0 rfl) ?_
              refine va_get (D := (dC, dI)) (ci := 12) (v := .ref (q 26)) (C := RX12) (T := TX12) (N := 71) hx hb hts inX12 hown hK hP 0 rfl rfl 26 (by decide) (hts (.fieldLink RX12 64 "SpellTurnerModel" "wayParts" "[I") im_143) (fun _ h9 => h9) rfl dX12_partings_86 ?_
              refine lv_iload_n hx hb dX12_partings_89 rfl (lv_at hl 1 rfl) ?_
              replace hr := iteS hr
              obtain ⟨hi90, hr⟩ := hr
              refine va_iald (f := c59_F26) hx hb hK hP 17 1 rfl rfl (inbV hi90) dX12_partings_90 ?_
              replace hr := iteS hr
              obtain ⟨hi91, hr⟩ := hr
              refine va_iast (f := d72_F46) hx hb hK hP hD hS 30 1 rfl rfl (inbV hi91) dX12_partings_91 (fun H locs hP hD hS => ?_)
              obtain ⟨w91, ew91, hP, hD⟩ : ∃ w91 : Nat → Int32, w91 = (upd d72_F46 (Int32.toNatClampNeg y72_3) (c59_F26 (Int32.toNatClampNeg y72_3))) ∧ va_P (dC, dI) vwCl (mW h0 kB kI kZ q (upd (upd (upd (upd g 1 c1_g1) 23 c1_g23) 27 c59_g27) 47 c59_g27) (upF (upF (upF (upF (upF (upF (upF F 22 c1_F22) 24 c59_F24) 25 c59_F25) 26 c59_F26) 28 c59_F28) 45 d72_F45) 46 w91)) H ∧ va_D A (mW h0 kB kI kZ q (upd (upd (upd (upd g 1 c1_g1) 23 c1_g23) 27 c59_g27) 47 c59_g27) (upF (upF (upF (upF (upF (upF (upF F 22 c1_F22) 24 c59_F24) 25 c59_F25) 26 c59_F26) 28 c59_F28) 45 d72_F45) 46 w91)) := ⟨(upd d72_F46 (Int32.toNatClampNeg y72_3) (c59_F26 (Int32.toNatClampNeg y72_3))), rfl, by first | exact sP_F46 hP upF_same | exact sP_F46 hP rfl | exact hP, by first | exact sD_F46 hD upF_same | exact sD_F46 hD rfl | exact hD⟩
              replace hr := vlS hr w91 ew91
              clear ew91
              refine lv_iconst (v := 0) hx hb dX12_partings_92 (by decide +kernel) ?_
              refine lv_istore (lv' := [(4, .int 0), (0, .ref h0), (3, .int y72_3)]) hx hb dX12_partings_93 hl (by decide) rfl (fun ls hl => ?_)
              replace hr := jnS hr
              obtain ⟨k136, hk136, hr⟩ := hr
              have Jk136 : ∀ (c136_F45 : (Nat → Int32)) (H : Heap) (locs : List Loc) (ls : Array Slot), k136 c136_F45 = some (r, c_g1, c_g23, c_g27, c_g47, c_F22, c_F24, c_F25, c_F26, c_F28, c_F45, c_F46) → va_P (dC, dI) vwCl (mW h0 kB kI kZ q (upd (upd (upd (upd g 1 c1_g1) 23 c1_g23) 27 c59_g27) 47 c59_g27) (upF (upF (upF (upF (upF (upF (upF F 22 c1_F22) 24 c59_F24) 25 c59_F25) 26 c59_F26) 28 c59_F28) 45 c136_F45) 46 w91)) H → va_D A (mW h0 kB kI kZ q (upd (upd (upd (upd g 1 c1_g1) 23 c1_g23) 27 c59_g27) 47 c59_g27) (upF (upF (upF (upF (upF (upF (upF F 22 c1_F22) 24 c59_F24) 25 c59_F25) 26 c59_F26) 28 c59_F28) 45 c136_F45) 46 w91)) → va_S A s.heap H locs → lv_has ls 5 [(0, .ref h0), (3, .int y72_3)] → W p l e ({ frames := 45, cells := 0, slots := 0, locals := 1093 } : Room) s m args below meth c H locs 0 0 Q (F0 m 136 ls []) := by
                intro c136_F45 H locs ls hr hP hD hS hl
                rw [hk136] at hr
                refine lv_iinc (v := (y72_3 + 1)) (lv' := [(3, .int (y72_3 + 1)), (0, .ref h0)]) hx hb dX12_partings_136 hl (k := 1) rfl rfl (by decide) rfl (fun ls hl => ?_)
                refine lv_goto (tgt := 72) hx hb dX12_partings_139 (by decide) ?_
                exact ih72 (y72_3 + 1) c136_F45 w91 H _ ls hr hP hD hS (lv_sub hl [1, 0] rfl)
              have lp95 : ∀ (n95 : Nat) (y95_4 : Int32) (d95_F45 : (Nat → Int32)) (H : Heap) (locs : List Loc) (ls : Array Slot), L_partings_95 c59_F25 c59_F26 y72_3 k136 n95 y95_4 d95_F45 = some (r, c_g1, c_g23, c_g27, c_g47, c_F22, c_F24, c_F25, c_F26, c_F28, c_F45, c_F46) → va_P (dC, dI) vwCl (mW h0 kB kI kZ q (upd (upd (upd (upd g 1 c1_g1) 23 c1_g23) 27 c59_g27) 47 c59_g27) (upF (upF (upF (upF (upF (upF (upF F 22 c1_F22) 24 c59_F24) 25 c59_F25) 26 c59_F26) 28 c59_F28) 45 d95_F45) 46 w91)) H → va_D A (mW h0 kB kI kZ q (upd (upd (upd (upd g 1 c1_g1) 23 c1_g23) 27 c59_g27) 47 c59_g27) (upF (upF (upF (upF (upF (upF (upF F 22 c1_F22) 24 c59_F24) 25 c59_F25) 26 c59_F26) 28 c59_F28) 45 d95_F45) 46 w91)) → va_S A s.heap H locs → lv_has ls 5 [(0, .ref h0), (3, .int y72_3), (4, .int y95_4)] → W p l e ({ frames := 45, cells := 0, slots := 0, locals := 1093 } : Room) s m args below meth c H locs 0 0 Q (F0 m 95 ls []) := by
                intro n95
                induction n95 with
                | zero => intro y95_4 d95_F45 H locs ls hr; exact nomatch (show none = some (r, c_g1, c_g23, c_g27, c_g47, c_F22, c_F24, c_F25, c_F26, c_F28, c_F45, c_F46) from hr)
                | succ n95 ih95 =>
                  intro y95_4 d95_F45 H locs ls hr hP hD hS hl
                  replace hr : B_partings_95 c59_F25 c59_F26 y72_3 k136 (L_partings_95 c59_F25 c59_F26 y72_3 k136 n95) y95_4 d95_F45 = some (r, c_g1, c_g23, c_g27, c_g47, c_F22, c_F24, c_F25, c_F26, c_F28, c_F45, c_F46) := hr
                  unfold B_partings_95 at hr
                  refine lv_iload hx hb dX12_partings_95 (lv_at hl 2 rfl) ?_
                  refine lv_aload_n hx hb dX12_partings_97 rfl (lv_at hl 0 rfl) ?_
                  refine va_get (D := (dC, dI)) (ci := 12) (v := .ref (q 26)) (C := RX12) (T := TX12) (N := 71) hx hb hts inX12 hown hK hP 0 rfl rfl 26 (by decide) (hts (.fieldLink RX12 64 "SpellTurnerModel" "wayParts" "[I") im_143) (fun _ h9 => h9) rfl dX12_partings_98 ?_
                  refine lv_iload_n hx hb dX12_partings_101 rfl (lv_at hl 1 rfl) ?_
                  replace hr := iteS hr
                  obtain ⟨hi102, hr⟩ := hr
                  refine va_iald (f := c59_F26) hx hb hK hP 17 1 rfl rfl (inbV hi102) dX12_partings_102 ?_
                  refine lv_icmp_ge (tgt := 136) hx hb dX12_partings_103 (by decide) (fun c103 => ?_) (fun c103 => ?_)
                  · replace hr := iteT c103 hr
                    exact Jk136 d95_F45 H _ ls hr hP hD hS (lv_sub hl [0, 1] rfl)
                  · replace hr := iteF c103 hr
                    refine lv_aload_n hx hb dX12_partings_106 rfl (lv_at hl 0 rfl) ?_
                    refine va_get (D := (dC, dI)) (ci := 12) (v := .ref (q 45)) (C := RX12) (T := TX12) (N := 71) hx hb hts inX12 hown hK hP 0 rfl rfl 45 (by decide) (hts (.fieldLink RX12 100 "SpellTurnerModel" "toldWays" "[I") im_83) (fun _ h9 => h9) rfl dX12_partings_107 ?_
                    refine lv_bipush (v := 24) hx hb dX12_partings_110 (by decide +kernel) ?_
                    refine lv_iload_n hx hb dX12_partings_112 rfl (lv_at hl 1 rfl) ?_
                    refine lv_imul hx hb dX12_partings_113 ?_
                    refine lv_iload hx hb dX12_partings_114 (lv_at hl 2 rfl) ?_
                    refine lv_iadd hx hb dX12_partings_116 ?_
                    refine lv_aload_n hx hb dX12_partings_117 rfl (lv_at hl 0 rfl) ?_
                    refine va_get (D := (dC, dI)) (ci := 12) (v := .ref (q 25)) (C := RX12) (T := TX12) (N := 71) hx hb hts inX12 hown hK hP 0 rfl rfl 25 (by decide) (hts (.fieldLink RX12 61 "SpellTurnerModel" "ways" "[I") im_144) (fun _ h9 => h9) rfl dX12_partings_118 ?_
                    refine lv_bipush (v := 24) hx hb dX12_partings_121 (by decide +kernel) ?_
                    refine lv_iload_n hx hb dX12_partings_123 rfl (lv_at hl 1 rfl) ?_
                    refine lv_imul hx hb dX12_partings_124 ?_
                    refine lv_iload hx hb dX12_partings_125 (lv_at hl 2 rfl) ?_
                    refine lv_iadd hx hb dX12_partings_127 ?_
                    replace hr := iteS hr
                    obtain ⟨hi128, hr⟩ := hr
                    refine va_iald (f := c59_F25) hx hb hK hP 16 1 rfl rfl (inbV hi128) dX12_partings_128 ?_
                    replace hr := iteS hr
                    obtain ⟨hi129, hr⟩ := hr
                    refine va_iast (f := d95_F45) hx hb hK hP hD hS 29 1 rfl rfl (inbV hi129) dX12_partings_129 (fun H locs hP hD hS => ?_)
                    obtain ⟨w129, ew129, hP, hD⟩ : ∃ w129 : Nat → Int32, w129 = (upd d95_F45 (Int32.toNatClampNeg ((24 * y72_3) + y95_4)) (c59_F25 (Int32.toNatClampNeg ((24 * y72_3) + y95_4)))) ∧ va_P (dC, dI) vwCl (mW h0 kB kI kZ q (upd (upd (upd (upd g 1 c1_g1) 23 c1_g23) 27 c59_g27) 47 c59_g27) (upF (upF (upF (upF (upF (upF (upF F 22 c1_F22) 24 c59_F24) 25 c59_F25) 26 c59_F26) 28 c59_F28) 45 w129) 46 w91)) H ∧ va_D A (mW h0 kB kI kZ q (upd (upd (upd (upd g 1 c1_g1) 23 c1_g23) 27 c59_g27) 47 c59_g27) (upF (upF (upF (upF (upF (upF (upF F 22 c1_F22) 24 c59_F24) 25 c59_F25) 26 c59_F26) 28 c59_F28) 45 w129) 46 w91)) := ⟨(upd d95_F45 (Int32.toNatClampNeg ((24 * y72_3) + y95_4)) (c59_F25 (Int32.toNatClampNeg ((24 * y72_3) + y95_4)))), rfl, by first | exact sP_F45 hP (upF_in (by decide) upF_same) | exact sP_F45 hP (upF_in (by decide) rfl) | exact hP, by first | exact sD_F45 hD (upF_in (by decide) upF_same) | exact sD_F45 hD (upF_in (by decide) rfl) | exact hD⟩
                    replace hr := vlS hr w129 ew129
                    clear ew129
                    refine lv_iinc (v := (y95_4 + 1)) (lv' := [(4, .int (y95_4 + 1)), (0, .ref h0), (3, .int y72_3)]) hx hb dX12_partings_130 hl (k := 2) rfl rfl (by decide) rfl (fun ls hl => ?_)
                    refine lv_goto (tgt := 95) hx hb dX12_partings_133 (by decide) ?_
                    exact ih95 (y95_4 + 1) w129 H _ ls hr hP hD hS (lv_sub hl [1, 2, 0] rfl)
              exact lp95 NN 0 d72_F45 H _ ls hr hP hD hS (lv_sub hl [1, 2, 0] rfl)
        first | exact lp72 NN 0 (F 45) (F 46) H _ ls hr (sP_eq (mW_cg (by repeat (first | with_reducible rfl | with_reducible refine upd_cg ?_ | refine Eq.trans ?_ (upd_id rfl))) (by repeat (first | with_reducible rfl | with_reducible refine upF_cg ?_ | refine Eq.trans ?_ (upF_id rfl)))) hP) (sD_eq (mW_cg (by repeat (first | with_reducible rfl | with_reducible refine upd_cg ?_ | refine Eq.trans ?_ (upd_id rfl))) (by repeat (first | with_reducible rfl | with_reducible refine upF_cg ?_ | refine Eq.trans ?_ (upF_id rfl)))) hD) hS (lv_sub hl [2, 0] rfl) | exact lp72 NN 0 (F 45) (F 46) H _ ls hr hP hD hS (lv_sub hl [2, 0] rfl)
      · replace hr := iteF c32 hr
        refine lv_aload_n hx hb dX12_partings_35 rfl (lv_at hl 1 rfl) ?_
        refine va_get (D := (dC, dI)) (ci := 12) (v := .ref (q 21)) (C := RX12) (T := TX12) (N := 71) hx hb hts inX12 hown hK hP 0 rfl rfl 21 (by decide) (hts (.fieldLink RX12 52 "SpellTurnerModel" "listSize" "[I") im_63) (fun _ h9 => h9) rfl dX12_partings_36 ?_
        refine lv_iconst (v := 2) hx hb dX12_partings_39 (by decide +kernel) ?_
        refine lv_iload_n hx hb dX12_partings_40 rfl (lv_at hl 0 rfl) ?_
        refine lv_imul hx hb dX12_partings_41 ?_
        refine lv_iconst (v := 1) hx hb dX12_partings_42 (by decide +kernel) ?_
        refine lv_iadd hx hb dX12_partings_43 ?_
        replace hr := iteS hr
        obtain ⟨hi44, hr⟩ := hr
        refine va_iald (f := (F 21)) hx hb hK hP 13 1 rfl rfl (inbV hi44) dX12_partings_44 ?_
        refine lv_iconst (v := (-1)) hx hb dX12_partings_45 (by decide +kernel) ?_
        replace hr := jnS hr
        obtain ⟨j56, hj56, hr⟩ := hr
        have Jj56 : ∀ (t56_0 : Int32) (H : Heap) (locs : List Loc) (ls : Array Slot), j56 t56_0 = some (r, c_g1, c_g23, c_g27, c_g47, c_F22, c_F24, c_F25, c_F26, c_F28, c_F45, c_F46) → va_P (dC, dI) vwCl (mW h0 kB kI kZ q (upd (upd g 1 c1_g1) 23 c1_g23) (upF F 22 c1_F22)) H → va_D A (mW h0 kB kI kZ q (upd (upd g 1 c1_g1) 23 c1_g23) (upF F 22 c1_F22)) → va_S A s.heap H locs → lv_has ls 5 [] → W p l e ({ frames := 45, cells := 0, slots := 0, locals := 1093 } : Room) s m args below meth c H locs 0 0 Q (F0 m 56 ls [.int t56_0]) := by
          intro t56_0 H locs ls hr hP hD hS hl
          rw [hj56] at hr
          first | exact K 56 ls _ _ _ _ _ _ _ _ _ _ _ _ H _ hr dX12_partings_56 (sP_eq (mW_cg (by repeat (first | with_reducible rfl | with_reducible refine upd_cg ?_ | refine Eq.trans ?_ (upd_id rfl))) (by repeat (first | with_reducible rfl | with_reducible refine upF_cg ?_ | refine Eq.trans ?_ (upF_id rfl)))) hP) (sD_eq (mW_cg (by repeat (first | with_reducible rfl | with_reducible refine upd_cg ?_ | refine Eq.trans ?_ (upd_id rfl))) (by repeat (first | with_reducible rfl | with_reducible refine upF_cg ?_ | refine Eq.trans ?_ (upF_id rfl)))) hD) hS | exact K 56 ls _ _ _ _ _ _ _ _ _ _ _ _ H _ hr dX12_partings_56 hP hD hS
        refine lv_icmp_ne (tgt := 54) hx hb dX12_partings_46 (by decide) (fun c46 => ?_) (fun c46 => ?_)
        · replace hr := iteF c46 hr
          refine lv_bipush (v := (-11)) hx hb dX12_partings_54 (by decide +kernel) ?_
          exact Jj56 (-11) H _ ls hr hP hD hS (lv_sub hl [] rfl)
        · replace hr := iteT c46 hr
          refine lv_bipush (v := (-10)) hx hb dX12_partings_49 (by decide +kernel) ?_
          refine lv_goto (tgt := 56) hx hb dX12_partings_51 (by decide) ?_
          exact Jj56 (-10) H _ ls hr hP hD hS (lv_sub hl [] rfl)
    · replace hr := iteT c18 hr
      exact Jj21 H _ ls hr hP hD hS (lv_sub hl [] rfl)
set_option maxHeartbeats 4000000 in
set_option maxRecDepth 100000 in
theorem m_partings (l : Launch) (dC : Nat → ClassId) (dI : Nat → Nat → Nat) (sz : Nat) (h0 : Nat) (kB kI kZ : ClassId) (q : Nat → Nat) (g : Nat → Int32) (F : Nat → Nat → Int32) (p0 : Int32) (r : Int32) (c_g1 : Int32) (c_g23 : Int32) (c_g27 : Int32) (c_g47 : Int32) (c_F22 : (Nat → Int32)) (c_F24 : (Nat → Int32)) (c_F25 : (Nat → Int32)) (c_F26 : (Nat → Int32)) (c_F28 : (Nat → Int32)) (c_F45 : (Nat → Int32)) (c_F46 : (Nat → Int32)) (hr : f_partings g F p0 = some (r, c_g1, c_g23, c_g27, c_g47, c_F22, c_F24, c_F25, c_F26, c_F28, c_F45, c_F46)) : Met l yX12_partings vmX12_partings ({ frames := 45, cells := 0, slots := 0, locals := 1093 } : Room) (va_Pc [.ref h0, .int p0] (fun U => U.heap.size = sz ∧ va_P (dC, dI) vwCl (mW h0 kB kI kZ q g F) U.heap ∧ va_K (dC, dI) vwCl (mT kB kI kZ) U ∧ va_D (fun _ => True) (mW h0 kB kI kZ q g F))) (va_Qi (fun (rz : Int32) (_ : Unit) => rz = r) (fun _ t => va_P (dC, dI) vwCl (mW h0 kB kI kZ q (upd (upd (upd (upd g 1 c_g1) 23 c_g23) 27 c_g27) 47 c_g47) (upF (upF (upF (upF (upF (upF (upF F 22 c_F22) 24 c_F24) 25 c_F25) 26 c_F26) 28 c_F28) 45 c_F45) 46 c_F46)) t.heap ∧ va_K (dC, dI) vwCl (mT kB kI kZ) t ∧ va_D (va_A (mW h0 kB kI kZ q g F) sz) (mW h0 kB kI kZ q (upd (upd (upd (upd g 1 c_g1) 23 c_g23) 27 c_g27) 47 c_g47) (upF (upF (upF (upF (upF (upF (upF F 22 c_F22) 24 c_F24) 25 c_F25) 26 c_F26) 28 c_F28) 45 c_F45) 46 c_F46))) (va_A (mW h0 kB kI kZ q g F) sz)) 0 0 (va_A (mW h0 kB kI kZ q g F) sz) := by
  refine Met.ofW (cc := cX12_partings) (maxL := 5) (ret := (some .int)) (by decide) rfl ?_
  intro p e s m args below meth c s₁ B hml hv
  obtain ⟨rfl, hsz, hP, hK, hD0⟩ := hv
  have hx := B.exec
  have hb := B.bytes
  have hrt := B.returns
  have hts := atoms_spec (ws := vmX12_partings) B.pre
  have hown : s.vm.findClass RX12 = some m.cls := findClass_of_methodNamed B.named
  subst hsz
  have hD := hD0.self (sz := s.heap.size)
  generalize hAe : va_A (mW h0 kB kI kZ q g F) s.heap.size = A at hD ⊢
  have hA : ∀ q : Nat, s.heap.size ≤ q → A q := fun q h => by rw [← hAe]; exact Or.inr h
  have hS : va_S A s.heap s.heap [] := va_S.rf
  have hl := lv_entry ([.ref h0, .int p0]) (n := 5) (Nat.le_of_ble_eq_true rfl)
  rw [lg_entry_eq]
  generalize (lg_sl ([.ref h0, .int p0]) ++ List.replicate (5 - (lg_sl ([.ref h0, .int p0])).length) Slot.unset).toArray = ls at hl ⊢
  exact bm_partings p0 r c_g1 c_g23 c_g27 c_g47 c_F22 c_F24 c_F25 c_F26 c_F28 c_F45 c_F46 hr hx hb hml hown hts hA hK hP hD hS hl (fun pc ls rz c_g1z c_g23z c_g27z c_g47z c_F22z c_F24z c_F25z c_F26z c_F28z c_F45z c_F46z H locs he hd hP hD hS => by cases he; exact W.iret (v := r) hx hb hrt (fun t ht hW => ⟨⟨r, (), rfl, rfl, by rw [ht]; exact hP, va_K.moved hW.alike hK, hD⟩, hS.F ht⟩) hS.2.2 hd)
set_option maxHeartbeats 4000000 in
set_option maxRecDepth 100000 in
theorem bm_takeWord_49 {p : Program} {l : Launch} {e : Env} {s : State} {m : MethodId} {args : Array Value} {below : List Frame} {meth : Method} {c : Code} {Q : State → Prop} {A : Nat → Prop} {dC : Nat → ClassId} {dI : Nat → Nat → Nat} {h0 : Nat} {kB kI kZ : ClassId} {q : Nat → Nat} {g : Nat → Int32} {F : Nat → Nat → Int32} {H : Heap} {locs : List Loc} {ls : Array Slot} (p1 : Int32) (p2 : Int32) (c_g23 : Int32) (c_F22 : (Nat → Int32)) (hr : f_takeWord g F (F 49) 2400 p1 p2 = some (c_g23, c_F22)) (hx : p.tables.exec = Jvm.exec) (hb : c.code = cX12_takeWord) (hml : c.maxLocals = 5) (hown : s.vm.findClass RX12 = some m.cls) (hts : ∀ w ∈ vmX12_takeWord, w.before args s = true) (hA : ∀ q : Nat, s.heap.size ≤ q → A q) (hK : va_K (dC, dI) vwCl (mT kB kI kZ) s) (hP : va_P (dC, dI) vwCl (mW h0 kB kI kZ q g F) H) (hD : va_D A (mW h0 kB kI kZ q g F)) (hS : va_S A s.heap H locs) (hl : lv_has ls 5 [(0, .ref h0), (1, .ref (q 49)), (2, .int p1), (3, .int p2)])
    (K : ∀ (pc : Nat) (ls : Array Slot) (c_g23z : Int32) (c_F22z : (Nat → Int32)) (H : Heap) (locs : List Loc), some (c_g23z, c_F22z) = some (c_g23, c_F22) → decode cX12_takeWord pc = .ok (.return_, 1) → va_P (dC, dI) vwCl (mW h0 kB kI kZ q (upd g 23 c_g23z) (upF F 22 c_F22z)) H → va_D A (mW h0 kB kI kZ q (upd g 23 c_g23z) (upF F 22 c_F22z)) → va_S A s.heap H locs → W p l e ({ frames := 2, cells := 0, slots := 0, locals := 60 } : Room) s m args below meth c H locs 0 0 Q (F0 m pc ls [])) : W p l e ({ frames := 2, cells := 0, slots := 0, locals := 60 } : Room) s m args below meth c H locs 0 0 Q (F0 m 0 ls []) := by
  unfold f_takeWord at hr
  refine lv_iconst (v := 0) hx hb dX12_takeWord_0 (by decide +kernel) ?_
  refine lv_istore (lv' := [(4, .int 0), (0, .ref h0), (1, .ref (q 49)), (2, .int p1), (3, .int p2)]) hx hb dX12_takeWord_1 hl (by decide) rfl (fun ls hl => ?_)
  have lp3 : ∀ (n3 : Nat) (y3_4 : Int32) (d3_F22 : (Nat → Int32)) (H : Heap) (locs : List Loc) (ls : Array Slot), L_takeWord_3 (F 49) 2400 p1 p2 n3 y3_4 d3_F22 = some (c_g23, c_F22) → va_P (dC, dI) vwCl (mW h0 kB kI kZ q g (upF F 22 d3_F22)) H → va_D A (mW h0 kB kI kZ q g (upF F 22 d3_F22)) → va_S A s.heap H locs → lv_has ls 5 [(0, .ref h0), (1, .ref (q 49)), (2, .int p1), (3, .int p2), (4, .int y3_4)] → W p l e ({ frames := 2, cells := 0, slots := 0, locals := 60 } : Room) s m args below meth c H locs 0 0 Q (F0 m 3 ls []) := by
    intro n3
    induction n3 with
    | zero => intro y3_4 d3_F22 H locs ls hr; exact nomatch (show none = some (c_g23, c_F22) from hr)
    | succ n3 ih3 =>
      intro y3_4 d3_F22 H locs ls hr hP hD hS hl
      replace hr : B_takeWord_3 (F 49) 2400 p1 p2 (L_takeWord_3 (F 49) 2400 p1 p2 n3) y3_4 d3_F22 = some (c_g23, c_F22) := hr
      unfold B_takeWord_3 at hr
      refine lv_iload hx hb dX12_takeWord_3 (lv_at hl 4 rfl) ?_
      refine lv_iload_n hx hb dX12_takeWord_5 rfl (lv_at hl 3 rfl) ?_
      refine lv_icmp_ge (tgt := 28) hx hb dX12_takeWord_6 (by decide) (fun c6 => ?_) (fun c6 => ?_)
      · replace hr := iteT c6 hr
        refine lv_aload_n hx hb dX12_takeWord_28 rfl (lv_at hl 0 rfl) ?_
        refine lv_iload_n hx hb dX12_takeWord_29 rfl (lv_at hl 3 rfl) ?_
        refine va_put (D := (dC, dI)) (ci := 12) (v := .int p2) (ty := .int) (C := RX12) (T := TX12) (N := 71) hx hb hts inX12 tyX12 tyX12_ok nmX12 hown hK hP hD hS 0 rfl rfl 23 (by decide) (hts (.fieldLink RX12 244 "SpellTurnerModel" "letters" "I") im_49) (fun _ h9 => h9) rfl (by decide +kernel) rfl rfl (Nat.le_of_ble_eq_true rfl) dX12_takeWord_30 (fun H locs hP hD hS => ?_)
        have hP : va_P (dC, dI) vwCl (mW h0 kB kI kZ q (upd g 23 p2) (upF F 22 d3_F22)) H := by first | exact sP_g23 hP rfl | exact sP_g23 hP upd_same | exact hP
        have hD : va_D A (mW h0 kB kI kZ q (upd g 23 p2) (upF F 22 d3_F22)) := by first | exact sD_g23 hD rfl | exact sD_g23 hD upd_same | exact hD
        first | exact K 33 ls _ _ H _ hr dX12_takeWord_33 (sP_eq (mW_cg (by repeat (first | with_reducible rfl | with_reducible refine upd_cg ?_ | refine Eq.trans ?_ (upd_id rfl))) (by repeat (first | with_reducible rfl | with_reducible refine upF_cg ?_ | refine Eq.trans ?_ (upF_id rfl)))) hP) (sD_eq (mW_cg (by repeat (first | with_reducible rfl | with_reducible refine upd_cg ?_ | refine Eq.trans ?_ (upd_id rfl))) (by repeat (first | with_reducible rfl | with_reducible refine upF_cg ?_ | refine Eq.trans ?_ (upF_id rfl)))) hD) hS | exact K 33 ls _ _ H _ hr dX12_takeWord_33 hP hD hS
      · replace hr := iteF c6 hr
        refine lv_aload_n hx hb dX12_takeWord_9 rfl (lv_at hl 0 rfl) ?_
        refine va_get (D := (dC, dI)) (ci := 12) (v := .ref (q 22)) (C := RX12) (T := TX12) (N := 71) hx hb hts inX12 hown hK hP 0 rfl rfl 22 (by decide) (hts (.fieldLink RX12 55 "SpellTurnerModel" "word" "[B") im_50) (fun _ h9 => h9) rfl dX12_takeWord_10 ?_
        refine lv_iload hx hb dX12_takeWord_13 (lv_at hl 4 rfl) ?_
        refine lv_aload_n hx hb dX12_takeWord_15 rfl (lv_at hl 1 rfl) ?_
        refine lv_iload_n hx hb dX12_takeWord_16 rfl (lv_at hl 2 rfl) ?_
        refine lv_iload hx hb dX12_takeWord_17 (lv_at hl 4 rfl) ?_
        refine lv_iadd hx hb dX12_takeWord_19 ?_
        replace hr := iteS hr
        obtain ⟨hi20, hr⟩ := hr
        refine va_bald (f := (F 49)) hx hb hK hP 31 0 rfl rfl (inbV hi20) dX12_takeWord_20 ?_
        replace hr := iteS hr
        obtain ⟨hi21, hr⟩ := hr
        refine va_bast (f := d3_F22) hx hb hK hP hD hS 14 0 rfl rfl (inbV hi21) dX12_takeWord_21 (fun H locs hP hD hS => ?_)
        obtain ⟨w21, ew21, hP, hD⟩ : ∃ w21 : Nat → Int32, w21 = (upd d3_F22 (Int32.toNatClampNeg y3_4) (vp_nar .byte ((F 49) (Int32.toNatClampNeg (p1 + y3_4))))) ∧ va_P (dC, dI) vwCl (mW h0 kB kI kZ q g (upF F 22 w21)) H ∧ va_D A (mW h0 kB kI kZ q g (upF F 22 w21)) := ⟨(upd d3_F22 (Int32.toNatClampNeg y3_4) (vp_nar .byte ((F 49) (Int32.toNatClampNeg (p1 + y3_4))))), rfl, by first | exact sP_F22 hP upF_same | exact sP_F22 hP rfl | exact hP, by first | exact sD_F22 hD upF_same | exact sD_F22 hD rfl | exact hD⟩
        replace hr := vlS hr w21 ew21
        clear ew21
        refine lv_iinc (v := (y3_4 + 1)) (lv' := [(4, .int (y3_4 + 1)), (0, .ref h0), (1, .ref (q 49)), (2, .int p1), (3, .int p2)]) hx hb dX12_takeWord_22 hl (k := 4) rfl rfl (by decide) rfl (fun ls hl => ?_)
        refine lv_goto (tgt := 3) hx hb dX12_takeWord_25 (by decide) ?_
        exact ih3 (y3_4 + 1) w21 H _ ls hr hP hD hS (lv_sub hl [1, 2, 3, 4, 0] rfl)
  first | exact lp3 NN 0 (F 22) H _ ls hr (sP_eq (mW_cg (by repeat (first | with_reducible rfl | with_reducible refine upd_cg ?_ | refine Eq.trans ?_ (upd_id rfl))) (by repeat (first | with_reducible rfl | with_reducible refine upF_cg ?_ | refine Eq.trans ?_ (upF_id rfl)))) hP) (sD_eq (mW_cg (by repeat (first | with_reducible rfl | with_reducible refine upd_cg ?_ | refine Eq.trans ?_ (upd_id rfl))) (by repeat (first | with_reducible rfl | with_reducible refine upF_cg ?_ | refine Eq.trans ?_ (upF_id rfl)))) hD) hS (lv_sub hl [1, 2, 3, 4, 0] rfl) | exact lp3 NN 0 (F 22) H _ ls hr hP hD hS (lv_sub hl [1, 2, 3, 4, 0] rfl)
set_option maxHeartbeats 4000000 in
set_option maxRecDepth 100000 in
theorem m_takeWord_49 (l : Launch) (dC : Nat → ClassId) (dI : Nat → Nat → Nat) (sz : Nat) (h0 : Nat) (kB kI kZ : ClassId) (q : Nat → Nat) (g : Nat → Int32) (F : Nat → Nat → Int32) (p1 : Int32) (p2 : Int32) (c_g23 : Int32) (c_F22 : (Nat → Int32)) (hr : f_takeWord g F (F 49) 2400 p1 p2 = some (c_g23, c_F22)) : Met l yX12_takeWord vmX12_takeWord ({ frames := 2, cells := 0, slots := 0, locals := 60 } : Room) (va_Pc [.ref h0, .ref (q 49), .int p1, .int p2] (fun U => U.heap.size = sz ∧ va_P (dC, dI) vwCl (mW h0 kB kI kZ q g F) U.heap ∧ va_K (dC, dI) vwCl (mT kB kI kZ) U ∧ va_D (fun _ => True) (mW h0 kB kI kZ q g F))) (va_Qv (fun _ : Unit => True) (fun _ t => va_P (dC, dI) vwCl (mW h0 kB kI kZ q (upd g 23 c_g23) (upF F 22 c_F22)) t.heap ∧ va_K (dC, dI) vwCl (mT kB kI kZ) t ∧ va_D (va_A (mW h0 kB kI kZ q g F) sz) (mW h0 kB kI kZ q (upd g 23 c_g23) (upF F 22 c_F22))) (va_A (mW h0 kB kI kZ q g F) sz)) 0 0 (va_A (mW h0 kB kI kZ q g F) sz) := by
  refine Met.ofW (cc := cX12_takeWord) (maxL := 5) (ret := none) (by decide) rfl ?_
  intro p e s m args below meth c s₁ B hml hv
  obtain ⟨rfl, hsz, hP, hK, hD0⟩ := hv
  have hx := B.exec
  have hb := B.bytes
  have hrt := B.returns
  have hts := atoms_spec (ws := vmX12_takeWord) B.pre
  have hown : s.vm.findClass RX12 = some m.cls := findClass_of_methodNamed B.named
  subst hsz
  have hD := hD0.self (sz := s.heap.size)
  generalize hAe : va_A (mW h0 kB kI kZ q g F) s.heap.size = A at hD ⊢
  have hA : ∀ q : Nat, s.heap.size ≤ q → A q := fun q h => by rw [← hAe]; exact Or.inr h
  have hS : va_S A s.heap s.heap [] := va_S.rf
  have hl := lv_entry ([.ref h0, .ref (q 49), .int p1, .int p2]) (n := 5) (Nat.le_of_ble_eq_true rfl)
  rw [lg_entry_eq]
  generalize (lg_sl ([.ref h0, .ref (q 49), .int p1, .int p2]) ++ List.replicate (5 - (lg_sl ([.ref h0, .ref (q 49), .int p1, .int p2])).length) Slot.unset).toArray = ls at hl ⊢
  exact bm_takeWord_49 p1 p2 c_g23 c_F22 hr hx hb hml hown hts hA hK hP hD hS hl (fun pc ls c_g23z c_F22z H locs he hd hP hD hS => by cases he; exact W.vret hx hb hrt (fun t ht hW => ⟨⟨(), rfl, trivial, by rw [ht]; exact hP, va_K.moved hW.alike hK, hD⟩, hS.F ht⟩) hS.2.2 hd)
set_option maxHeartbeats 4000000 in
set_option maxRecDepth 100000 in
theorem bm_make {p : Program} {l : Launch} {e : Env} {s : State} {m : MethodId} {args : Array Value} {below : List Frame} {meth : Method} {c : Code} {Q : State → Prop} {A : Nat → Prop} {dC : Nat → ClassId} {dI : Nat → Nat → Nat} {h0 : Nat} {kB kI kZ : ClassId} {q : Nat → Nat} {g : Nat → Int32} {F : Nat → Nat → Int32} {H : Heap} {locs : List Loc} {ls : Array Slot} (c_g23 : Int32) (c_g27 : Int32) (c_g30 : Int32) (c_g34 : Int32) (c_g36 : Int32) (c_g39 : Int32) (c_g51 : Int32) (c_F22 : (Nat → Int32)) (c_F24 : (Nat → Int32)) (c_F25 : (Nat → Int32)) (c_F26 : (Nat → Int32)) (c_F28 : (Nat → Int32)) (c_F29 : (Nat → Int32)) (c_F31 : (Nat → Int32)) (c_F32 : (Nat → Int32)) (c_F33 : (Nat → Int32)) (c_F37 : (Nat → Int32)) (c_F38 : (Nat → Int32)) (c_F40 : (Nat → Int32)) (c_F41 : (Nat → Int32)) (c_F52 : (Nat → Int32)) (c_F53 : (Nat → Int32)) (c_F54 : (Nat → Int32)) (hr : f_make g F = some (c_g23, c_g27, c_g30, c_g34, c_g36, c_g39, c_g51, c_F22, c_F24, c_F25, c_F26, c_F28, c_F29, c_F31, c_F32, c_F33, c_F37, c_F38, c_F40, c_F41, c_F52, c_F53, c_F54)) (hx : p.tables.exec = Jvm.exec) (hb : c.code = cX12_make) (hml : c.maxLocals = 6) (hown : s.vm.findClass RX12 = some m.cls) (hts : ∀ w ∈ vmX12_make, w.before args s = true) (hA : ∀ q : Nat, s.heap.size ≤ q → A q) (hK : va_K (dC, dI) vwCl (mT kB kI kZ) s) (hP : va_P (dC, dI) vwCl (mW h0 kB kI kZ q g F) H) (hD : va_D A (mW h0 kB kI kZ q g F)) (hS : va_S A s.heap H locs) (hl : lv_has ls 6 [(0, .ref h0)])
    (K : ∀ (pc : Nat) (ls : Array Slot) (c_g23z : Int32) (c_g27z : Int32) (c_g30z : Int32) (c_g34z : Int32) (c_g36z : Int32) (c_g39z : Int32) (c_g51z : Int32) (c_F22z : (Nat → Int32)) (c_F24z : (Nat → Int32)) (c_F25z : (Nat → Int32)) (c_F26z : (Nat → Int32)) (c_F28z : (Nat → Int32)) (c_F29z : (Nat → Int32)) (c_F31z : (Nat → Int32)) (c_F32z : (Nat → Int32)) (c_F33z : (Nat → Int32)) (c_F37z : (Nat → Int32)) (c_F38z : (Nat → Int32)) (c_F40z : (Nat → Int32)) (c_F41z : (Nat → Int32)) (c_F52z : (Nat → Int32)) (c_F53z : (Nat → Int32)) (c_F54z : (Nat → Int32)) (H : Heap) (locs : List Loc), some (c_g23z, c_g27z, c_g30z, c_g34z, c_g36z, c_g39z, c_g51z, c_F22z, c_F24z, c_F25z, c_F26z, c_F28z, c_F29z, c_F31z, c_F32z, c_F33z, c_F37z, c_F38z, c_F40z, c_F41z, c_F52z, c_F53z, c_F54z) = some (c_g23, c_g27, c_g30, c_g34, c_g36, c_g39, c_g51, c_F22, c_F24, c_F25, c_F26, c_F28, c_F29, c_F31, c_F32, c_F33, c_F37, c_F38, c_F40, c_F41, c_F52, c_F53, c_F54) → decode cX12_make pc = .ok (.return_, 1) → va_P (dC, dI) vwCl (mW h0 kB kI kZ q (upd (upd (upd (upd (upd (upd (upd g 23 c_g23z) 27 c_g27z) 30 c_g30z) 34 c_g34z) 36 c_g36z) 39 c_g39z) 51 c_g51z) (upF (upF (upF (upF (upF (upF (upF (upF (upF (upF (upF (upF (upF (upF (upF (upF F 22 c_F22z) 24 c_F24z) 25 c_F25z) 26 c_F26z) 28 c_F28z) 29 c_F29z) 31 c_F31z) 32 c_F32z) 33 c_F33z) 37 c_F37z) 38 c_F38z) 40 c_F40z) 41 c_F41z) 52 c_F52z) 53 c_F53z) 54 c_F54z)) H → va_D A (mW h0 kB kI kZ q (upd (upd (upd (upd (upd (upd (upd g 23 c_g23z) 27 c_g27z) 30 c_g30z) 34 c_g34z) 36 c_g36z) 39 c_g39z) 51 c_g51z) (upF (upF (upF (upF (upF (upF (upF (upF (upF (upF (upF (upF (upF (upF (upF (upF F 22 c_F22z) 24 c_F24z) 25 c_F25z) 26 c_F26z) 28 c_F28z) 29 c_F29z) 31 c_F31z) 32 c_F32z) 33 c_F33z) 37 c_F37z) 38 c_F38z) 40 c_F40z) 41 c_F41z) 52 c_F52z) 53 c_F53z) 54 c_F54z)) → va_S A s.heap H locs → W p l e ({ frames := 47, cells := 0, slots := 0, locals := 1146 } : Room) s m args below meth c H locs 0 0 Q (F0 m pc ls [])) : W p l e ({ frames := 47, cells := 0, slots := 0, locals := 1146 } : Room) s m args below meth c H locs 0 0 Q (F0 m 0 ls []) := by
  unfold f_make at hr
  refine lv_aload_n hx hb dX12_make_0 rfl (lv_at hl 0 rfl) ?_
  refine va_get (D := (dC, dI)) (ci := 12) (v := .int (g 51)) (C := RX12) (T := TX12) (N := 71) hx hb hts inX12 hown hK hP 0 rfl rfl 51 (by decide) (hts (.fieldLink RX12 237 "SpellTurnerModel" "isMade" "Z") im_126) (fun _ h9 => h9) rfl dX12_make_1 ?_
  refine lv_if_eq (tgt := 8) hx hb dX12_make_4 (by decide) (fun c4 => ?_) (fun c4 => ?_)
  · replace hr := iteT c4 hr
    refine lv_aload_n hx hb dX12_make_8 rfl (lv_at hl 0 rfl) ?_
    refine lv_iconst (v := 1) hx hb dX12_make_9 (by decide +kernel) ?_
    refine va_put (D := (dC, dI)) (ci := 12) (v := .int 1) (ty := .boolean) (C := RX12) (T := TX12) (N := 71) hx hb hts inX12 tyX12 tyX12_ok nmX12 hown hK hP hD hS 0 rfl rfl 51 (by decide) (hts (.fieldLink RX12 237 "SpellTurnerModel" "isMade" "Z") im_126) (fun _ h9 => h9) rfl (by decide +kernel) rfl rfl (Nat.le_of_ble_eq_true rfl) dX12_make_10 (fun H locs hP hD hS => ?_)
    have hP : va_P (dC, dI) vwCl (mW h0 kB kI kZ q (upd g 51 1) F) H := by first | exact sP_g51 hP rfl | exact sP_g51 hP upd_same | exact hP
    have hD : va_D A (mW h0 kB kI kZ q (upd g 51 1) F) := by first | exact sD_g51 hD rfl | exact sD_g51 hD upd_same | exact hD
    refine lv_iconst (v := 0) hx hb dX12_make_13 (by decide +kernel) ?_
    refine lv_istore_n (lv' := [(1, .int 0), (0, .ref h0)]) hx hb dX12_make_14 rfl hl (by decide) rfl (fun ls hl => ?_)
    have lp15 : ∀ (n15 : Nat) (y15_1 : Int32) (d15_g23 : Int32) (d15_g27 : Int32) (d15_g30 : Int32) (d15_g34 : Int32) (d15_g36 : Int32) (d15_g39 : Int32) (d15_F22 : (Nat → Int32)) (d15_F24 : (Nat → Int32)) (d15_F25 : (Nat → Int32)) (d15_F26 : (Nat → Int32)) (d15_F28 : (Nat → Int32)) (d15_F29 : (Nat → Int32)) (d15_F31 : (Nat → Int32)) (d15_F32 : (Nat → Int32)) (d15_F33 : (Nat → Int32)) (d15_F37 : (Nat → Int32)) (d15_F38 : (Nat → Int32)) (d15_F40 : (Nat → Int32)) (d15_F41 : (Nat → Int32)) (d15_F52 : (Nat → Int32)) (d15_F53 : (Nat → Int32)) (d15_F54 : (Nat → Int32)) (H : Heap) (locs : List Loc) (ls : Array Slot), L_make_15 g F n15 y15_1 d15_g23 d15_g27 d15_g30 d15_g34 d15_g36 d15_g39 d15_F22 d15_F24 d15_F25 d15_F26 d15_F28 d15_F29 d15_F31 d15_F32 d15_F33 d15_F37 d15_F38 d15_F40 d15_F41 d15_F52 d15_F53 d15_F54 = some (c_g23, c_g27, c_g30, c_g34, c_g36, c_g39, c_g51, c_F22, c_F24, c_F25, c_F26, c_F28, c_F29, c_F31, c_F32, c_F33, c_F37, c_F38, c_F40, c_F41, c_F52, c_F53, c_F54) → va_P (dC, dI) vwCl (mW h0 kB kI kZ q (upd (upd (upd (upd (upd (upd (upd g 23 d15_g23) 27 d15_g27) 30 d15_g30) 34 d15_g34) 36 d15_g36) 39 d15_g39) 51 1) (upF (upF (upF (upF (upF (upF (upF (upF (upF (upF (upF (upF (upF (upF (upF (upF F 22 d15_F22) 24 d15_F24) 25 d15_F25) 26 d15_F26) 28 d15_F28) 29 d15_F29) 31 d15_F31) 32 d15_F32) 33 d15_F33) 37 d15_F37) 38 d15_F38) 40 d15_F40) 41 d15_F41) 52 d15_F52) 53 d15_F53) 54 d15_F54)) H → va_D A (mW h0 kB kI kZ q (upd (upd (upd (upd (upd (upd (upd g 23 d15_g23) 27 d15_g27) 30 d15_g30) 34 d15_g34) 36 d15_g36) 39 d15_g39) 51 1) (upF (upF (upF (upF (upF (upF (upF (upF (upF (upF (upF (upF (upF (upF (upF (upF F 22 d15_F22) 24 d15_F24) 25 d15_F25) 26 d15_F26) 28 d15_F28) 29 d15_F29) 31 d15_F31) 32 d15_F32) 33 d15_F33) 37 d15_F37) 38 d15_F38) 40 d15_F40) 41 d15_F41) 52 d15_F52) 53 d15_F53) 54 d15_F54)) → va_S A s.heap H locs → lv_has ls 6 [(0, .ref h0), (1, .int y15_1)] → W p l e ({ frames := 47, cells := 0, slots := 0, locals := 1146 } : Room) s m args below meth c H locs 0 0 Q (F0 m 15 ls []) := by
      intro n15
      induction n15 with
      | zero => intro y15_1 d15_g23 d15_g27 d15_g30 d15_g34 d15_g36 d15_g39 d15_F22 d15_F24 d15_F25 d15_F26 d15_F28 d15_F29 d15_F31 d15_F32 d15_F33 d15_F37 d15_F38 d15_F40 d15_F41 d15_F52 d15_F53 d15_F54 H locs ls hr; exact nomatch (show none = some (c_g23, c_g27, c_g30, c_g34, c_g36, c_g39, c_g51, c_F22, c_F24, c_F25, c_F26, c_F28, c_F29, c_F31, c_F32, c_F33, c_F37, c_F38, c_F40, c_F41, c_F52, c_F53, c_F54) from hr)
      | succ n15 ih15 =>
        intro y15_1 d15_g23 d15_g27 d15_g30 d15_g34 d15_g36 d15_g39 d15_F22 d15_F24 d15_F25 d15_F26 d15_F28 d15_F29 d15_F31 d15_F32 d15_F33 d15_F37 d15_F38 d15_F40 d15_F41 d15_F52 d15_F53 d15_F54 H locs ls hr hP hD hS hl
        replace hr : B_make_15 g F (L_make_15 g F n15) y15_1 d15_g23 d15_g27 d15_g30 d15_g34 d15_g36 d15_g39 d15_F22 d15_F24 d15_F25 d15_F26 d15_F28 d15_F29 d15_F31 d15_F32 d15_F33 d15_F37 d15_F38 d15_F40 d15_F41 d15_F52 d15_F53 d15_F54 = some (c_g23, c_g27, c_g30, c_g34, c_g36, c_g39, c_g51, c_F22, c_F24, c_F25, c_F26, c_F28, c_F29, c_F31, c_F32, c_F33, c_F37, c_F38, c_F40, c_F41, c_F52, c_F53, c_F54) := hr
        unfold B_make_15 at hr
        refine lv_iload_n hx hb dX12_make_15 rfl (lv_at hl 1 rfl) ?_
        refine lv_aload_n hx hb dX12_make_16 rfl (lv_at hl 0 rfl) ?_
        refine va_get (D := (dC, dI)) (ci := 12) (v := .int (g 48)) (C := RX12) (T := TX12) (N := 71) hx hb hts inX12 hown hK hP 0 rfl rfl 48 (by decide) (hts (.fieldLink RX12 312 "SpellTurnerModel" "words" "I") im_85) (fun _ h9 => h9) rfl dX12_make_17 ?_
        refine lv_icmp_ge (tgt := 175) hx hb dX12_make_20 (by decide) (fun c20 => ?_) (fun c20 => ?_)
        · replace hr := iteT c20 hr
          first | exact K 175 ls _ _ _ _ _ _ _ _ _ _ _ _ _ _ _ _ _ _ _ _ _ _ _ H _ hr dX12_make_175 (sP_eq (mW_cg (by repeat (first | with_reducible rfl | with_reducible refine upd_cg ?_ | refine Eq.trans ?_ (upd_id rfl))) (by repeat (first | with_reducible rfl | with_reducible refine upF_cg ?_ | refine Eq.trans ?_ (upF_id rfl)))) hP) (sD_eq (mW_cg (by repeat (first | with_reducible rfl | with_reducible refine upd_cg ?_ | refine Eq.trans ?_ (upd_id rfl))) (by repeat (first | with_reducible rfl | with_reducible refine upF_cg ?_ | refine Eq.trans ?_ (upF_id rfl)))) hD) hS | exact K 175 ls _ _ _ _ _ _ _ _ _ _ _ _ _ _ _ _ _ _ _ _ _ _ _ H _ hr dX12_make_175 hP hD hS
        · replace hr := iteF c20 hr
          refine lv_iconst (v := 0) hx hb dX12_make_23 (by decide +kernel) ?_
          refine lv_istore_n (lv' := [(2, .int 0), (0, .ref h0), (1, .int y15_1)]) hx hb dX12_make_24 rfl hl (by decide) rfl (fun ls hl => ?_)
          replace hr := jnS hr
          obtain ⟨k169, hk169, hr⟩ := hr
          have Jk169 : ∀ (c169_g23 : Int32) (c169_g27 : Int32) (c169_g30 : Int32) (c169_g34 : Int32) (c169_g36 : Int32) (c169_g39 : Int32) (c169_F22 : (Nat → Int32)) (c169_F24 : (Nat → Int32)) (c169_F25 : (Nat → Int32)) (c169_F26 : (Nat → Int32)) (c169_F28 : (Nat → Int32)) (c169_F29 : (Nat → Int32)) (c169_F31 : (Nat → Int32)) (c169_F32 : (Nat → Int32)) (c169_F33 : (Nat → Int32)) (c169_F37 : (Nat → Int32)) (c169_F38 : (Nat → Int32)) (c169_F40 : (Nat → Int32)) (c169_F41 : (Nat → Int32)) (c169_F52 : (Nat → Int32)) (c169_F53 : (Nat → Int32)) (c169_F54 : (Nat → Int32)) (H : Heap) (locs : List Loc) (ls : Array Slot), k169 c169_g23 c169_g27 c169_g30 c169_g34 c169_g36 c169_g39 c169_F22 c169_F24 c169_F25 c169_F26 c169_F28 c169_F29 c169_F31 c169_F32 c169_F33 c169_F37 c169_F38 c169_F40 c169_F41 c169_F52 c169_F53 c169_F54 = some (c_g23, c_g27, c_g30, c_g34, c_g36, c_g39, c_g51, c_F22, c_F24, c_F25, c_F26, c_F28, c_F29, c_F31, c_F32, c_F33, c_F37, c_F38, c_F40, c_F41, c_F52, c_F53, c_F54) → va_P (dC, dI) vwCl (mW h0 kB kI kZ q (upd (upd (upd (upd (upd (upd (upd g 23 c169_g23) 27 c169_g27) 30 c169_g30) 34 c169_g34) 36 c169_g36) 39 c169_g39) 51 1) (upF (upF (upF (upF (upF (upF (upF (upF (upF (upF (upF (upF (upF (upF (upF (upF F 22 c169_F22) 24 c169_F24) 25 c169_F25) 26 c169_F26) 28 c169_F28) 29 c169_F29) 31 c169_F31) 32 c169_F32) 33 c169_F33) 37 c169_F37) 38 c169_F38) 40 c169_F40) 41 c169_F41) 52 c169_F52) 53 c169_F53) 54 c169_F54)) H → va_D A (mW h0 kB kI kZ q (upd (upd (upd (upd (upd (upd (upd g 23 c169_g23) 27 c169_g27) 30 c169_g30) 34 c169_g34) 36 c169_g36) 39 c169_g39) 51 1) (upF (upF (upF (upF (upF (upF (upF (upF (upF (upF (upF (upF (upF (upF (upF (upF F 22 c169_F22) 24 c169_F24) 25 c169_F25) 26 c169_F26) 28 c169_F28) 29 c169_F29) 31 c169_F31) 32 c169_F32) 33 c169_F33) 37 c169_F37) 38 c169_F38) 40 c169_F40) 41 c169_F41) 52 c169_F52) 53 c169_F53) 54 c169_F54)) → va_S A s.heap H locs → lv_has ls 6 [(0, .ref h0), (1, .int y15_1)] → W p l e ({ frames := 47, cells := 0, slots := 0, locals := 1146 } : Room) s m args below meth c H locs 0 0 Q (F0 m 169 ls []) := by
            intro c169_g23 c169_g27 c169_g30 c169_g34 c169_g36 c169_g39 c169_F22 c169_F24 c169_F25 c169_F26 c169_F28 c169_F29 c169_F31 c169_F32 c169_F33 c169_F37 c169_F38 c169_F40 c169_F41 c169_F52 c169_F53 c169_F54 H locs ls hr hP hD hS hl
            rw [hk169] at hr
            refine lv_iinc (v := (y15_1 + 1)) (lv' := [(1, .int (y15_1 + 1)), (0, .ref h0)]) hx hb dX12_make_169 hl (k := 1) rfl rfl (by decide) rfl (fun ls hl => ?_)
            refine lv_goto (tgt := 15) hx hb dX12_make_172 (by decide) ?_
            exact ih15 (y15_1 + 1) c169_g23 c169_g27 c169_g30 c169_g34 c169_g36 c169_g39 c169_F22 c169_F24 c169_F25 c169_F26 c169_F28 c169_F29 c169_F31 c169_F32 c169_F33 c169_F37 c169_F38 c169_F40 c169_F41 c169_F52 c169_F53 c169_F54 H _ ls hr hP hD hS (lv_sub hl [1, 0] rfl)
          have lp25 : ∀ (n25 : Nat) (y25_2 : Int32) (d25_g23 : Int32) (d25_g27 : Int32) (d25_g30 : Int32) (d25_g34 : Int32) (d25_g36 : Int32) (d25_g39 : Int32) (d25_F22 : (Nat → Int32)) (d25_F24 : (Nat → Int32)) (d25_F25 : (Nat → Int32)) (d25_F26 : (Nat → Int32)) (d25_F28 : (Nat → Int32)) (d25_F29 : (Nat → Int32)) (d25_F31 : (Nat → Int32)) (d25_F32 : (Nat → Int32)) (d25_F33 : (Nat → Int32)) (d25_F37 : (Nat → Int32)) (d25_F38 : (Nat → Int32)) (d25_F40 : (Nat → Int32)) (d25_F41 : (Nat → Int32)) (d25_F52 : (Nat → Int32)) (d25_F53 : (Nat → Int32)) (d25_F54 : (Nat → Int32)) (H : Heap) (locs : List Loc) (ls : Array Slot), L_make_25 g F y15_1 k169 n25 y25_2 d25_g23 d25_g27 d25_g30 d25_g34 d25_g36 d25_g39 d25_F22 d25_F24 d25_F25 d25_F26 d25_F28 d25_F29 d25_F31 d25_F32 d25_F33 d25_F37 d25_F38 d25_F40 d25_F41 d25_F52 d25_F53 d25_F54 = some (c_g23, c_g27, c_g30, c_g34, c_g36, c_g39, c_g51, c_F22, c_F24, c_F25, c_F26, c_F28, c_F29, c_F31, c_F32, c_F33, c_F37, c_F38, c_F40, c_F41, c_F52, c_F53, c_F54) → va_P (dC, dI) vwCl (mW h0 kB kI kZ q (upd (upd (upd (upd (upd (upd (upd g 23 d25_g23) 27 d25_g27) 30 d25_g30) 34 d25_g34) 36 d25_g36) 39 d25_g39) 51 1) (upF (upF (upF (upF (upF (upF (upF (upF (upF (upF (upF (upF (upF (upF (upF (upF F 22 d25_F22) 24 d25_F24) 25 d25_F25) 26 d25_F26) 28 d25_F28) 29 d25_F29) 31 d25_F31) 32 d25_F32) 33 d25_F33) 37 d25_F37) 38 d25_F38) 40 d25_F40) 41 d25_F41) 52 d25_F52) 53 d25_F53) 54 d25_F54)) H → va_D A (mW h0 kB kI kZ q (upd (upd (upd (upd (upd (upd (upd g 23 d25_g23) 27 d25_g27) 30 d25_g30) 34 d25_g34) 36 d25_g36) 39 d25_g39) 51 1) (upF (upF (upF (upF (upF (upF (upF (upF (upF (upF (upF (upF (upF (upF (upF (upF F 22 d25_F22) 24 d25_F24) 25 d25_F25) 26 d25_F26) 28 d25_F28) 29 d25_F29) 31 d25_F31) 32 d25_F32) 33 d25_F33) 37 d25_F37) 38 d25_F38) 40 d25_F40) 41 d25_F41) 52 d25_F52) 53 d25_F53) 54 d25_F54)) → va_S A s.heap H locs → lv_has ls 6 [(0, .ref h0), (1, .int y15_1), (2, .int y25_2)] → W p l e ({ frames := 47, cells := 0, slots := 0, locals := 1146 } : Room) s m args below meth c H locs 0 0 Q (F0 m 25 ls []) := by
            intro n25
            induction n25 with
            | zero => intro y25_2 d25_g23 d25_g27 d25_g30 d25_g34 d25_g36 d25_g39 d25_F22 d25_F24 d25_F25 d25_F26 d25_F28 d25_F29 d25_F31 d25_F32 d25_F33 d25_F37 d25_F38 d25_F40 d25_F41 d25_F52 d25_F53 d25_F54 H locs ls hr; exact nomatch (show none = some (c_g23, c_g27, c_g30, c_g34, c_g36, c_g39, c_g51, c_F22, c_F24, c_F25, c_F26, c_F28, c_F29, c_F31, c_F32, c_F33, c_F37, c_F38, c_F40, c_F41, c_F52, c_F53, c_F54) from hr)
            | succ n25 ih25 =>
              intro y25_2 d25_g23 d25_g27 d25_g30 d25_g34 d25_g36 d25_g39 d25_F22 d25_F24 d25_F25 d25_F26 d25_F28 d25_F29 d25_F31 d25_F32 d25_F33 d25_F37 d25_F38 d25_F40 d25_F41 d25_F52 d25_F53 d25_F54 H locs ls hr hP hD hS hl
              replace hr : B_make_25 g F y15_1 k169 (L_make_25 g F y15_1 k169 n25) y25_2 d25_g23 d25_g27 d25_g30 d25_g34 d25_g36 d25_g39 d25_F22 d25_F24 d25_F25 d25_F26 d25_F28 d25_F29 d25_F31 d25_F32 d25_F33 d25_F37 d25_F38 d25_F40 d25_F41 d25_F52 d25_F53 d25_F54 = some (c_g23, c_g27, c_g30, c_g34, c_g36, c_g39, c_g51, c_F22, c_F24, c_F25, c_F26, c_F28, c_F29, c_F31, c_F32, c_F33, c_F37, c_F38, c_F40, c_F41, c_F52, c_F53, c_F54) := hr
              unfold B_make_25 at hr
              refine lv_iload_n hx hb dX12_make_25 rfl (lv_at hl 2 rfl) ?_
              refine lv_aload_n hx hb dX12_make_26 rfl (lv_at hl 0 rfl) ?_
              refine va_get (D := (dC, dI)) (ci := 12) (v := .int (g 9)) (C := RX12) (T := TX12) (N := 71) hx hb hts inX12 hown hK hP 0 rfl rfl 9 (by decide) (hts (.fieldLink RX12 222 "SpellTurnerModel" "reforms" "I") im_40) (fun _ h9 => h9) rfl dX12_make_27 ?_
              refine lv_icmp_gt (tgt := 169) hx hb dX12_make_30 (by decide) (fun c30 => ?_) (fun c30 => ?_)
              · replace hr := iteT c30 hr
                exact Jk169 d25_g23 d25_g27 d25_g30 d25_g34 d25_g36 d25_g39 d25_F22 d25_F24 d25_F25 d25_F26 d25_F28 d25_F29 d25_F31 d25_F32 d25_F33 d25_F37 d25_F38 d25_F40 d25_F41 d25_F52 d25_F53 d25_F54 H _ ls hr hP hD hS (lv_sub hl [0, 1] rfl)
              · replace hr := iteF c30 hr
                refine lv_aload_n hx hb dX12_make_33 rfl (lv_at hl 0 rfl) ?_
                refine lv_aload_n hx hb dX12_make_34 rfl (lv_at hl 0 rfl) ?_
                refine va_get (D := (dC, dI)) (ci := 12) (v := .ref (q 49)) (C := RX12) (T := TX12) (N := 71) hx hb hts inX12 hown hK hP 0 rfl rfl 49 (by decide) (hts (.fieldLink RX12 106 "SpellTurnerModel" "bookText" "[B") im_87) (fun _ h9 => h9) rfl dX12_make_35 ?_
                refine lv_bipush (v := 24) hx hb dX12_make_38 (by decide +kernel) ?_
                refine lv_iload_n hx hb dX12_make_40 rfl (lv_at hl 1 rfl) ?_
                refine lv_imul hx hb dX12_make_41 ?_
                refine lv_aload_n hx hb dX12_make_42 rfl (lv_at hl 0 rfl) ?_
                refine va_get (D := (dC, dI)) (ci := 12) (v := .ref (q 50)) (C := RX12) (T := TX12) (N := 71) hx hb hts inX12 hown hK hP 0 rfl rfl 50 (by decide) (hts (.fieldLink RX12 109 "SpellTurnerModel" "bookSize" "[I") im_86) (fun _ h9 => h9) rfl dX12_make_43 ?_
                refine lv_iload_n hx hb dX12_make_46 rfl (lv_at hl 1 rfl) ?_
                replace hr := iteS hr
                obtain ⟨hi47, hr⟩ := hr
                refine va_iald (f := (F 50)) hx hb hK hP 32 1 rfl rfl (inbV hi47) dX12_make_47 ?_
                replace hr := b2S hr
                obtain ⟨c48_g23, c48_F22, hc48, hr⟩ := hr
                have hFc := fr_all hD hS hA
                refine va_callv (va_runV (As := [.ref (q 49), .int (24 * y15_1), .int ((F 50) (Int32.toNatClampNeg y15_1))]) (rest := []) ⟨hx, hb, hml, hown, hts⟩ (m_takeWord_49 l dC dI H.size h0 kB kI kZ q (upd (upd (upd (upd (upd (upd (upd g 23 d25_g23) 27 d25_g27) 30 d25_g30) 34 d25_g34) 36 d25_g36) 39 d25_g39) 51 1) (upF (upF (upF (upF (upF (upF (upF (upF (upF (upF (upF (upF (upF (upF (upF (upF F 22 d25_F22) 24 d25_F24) 25 d25_F25) 26 d25_F26) 28 d25_F28) 29 d25_F29) 31 d25_F31) 32 d25_F32) 33 d25_F33) 37 d25_F37) 38 d25_F38) 40 d25_F40) 41 d25_F41) 52 d25_F52) 53 d25_F53) 54 d25_F54) (24 * y15_1) ((F 50) (Int32.toNatClampNeg y15_1)) c48_g23 c48_F22 hc48) (cwV 3 hts gw_X12_takeWord_290 rfl rfl rfl (by decide +kernel) ⟨Nat.le_of_ble_eq_true rfl, Nat.le_of_ble_eq_true rfl⟩) ⟨fun a U g mk q => by obtain ⟨q0, q1, qP, qK, qD⟩ := q; exact ⟨q0, q1, qP, va_K.moved (u := U) (U := U.calling g mk a) (Vm.Alike.refl U.vm) qK, qD⟩, va_recv hK hP (ci := 12) (q0 := 0) rfl rfl, fun U hU hW => ⟨rfl, by rw [hU], by rw [hU]; exact hP, va_K.moved hW.alike hK, hD.weaken (fun _ _ _ _ => trivial)⟩⟩ rfl rfl hl.1 rfl (lv_room (Nat.le_of_ble_eq_true rfl)) dX12_make_48 ⟨Nat.le_of_ble_eq_true rfl, Nat.le_of_ble_eq_true rfl⟩) hS (fun q _ h => hFc q h) hFc (fun u t H1 locs ht hvm hw hB hz1 hk1 hS => ?_)
                obtain ⟨hP1, hK1, hD1⟩ := hB
                rw [ht] at hP1
                obtain ⟨hP, hD⟩ := jn_all (w1 := (mW h0 kB kI kZ q (upd (upd (upd (upd (upd (upd (upd g 23 c48_g23) 27 d25_g27) 30 d25_g30) 34 d25_g34) 36 d25_g36) 39 d25_g39) 51 1) (upF (upF (upF (upF (upF (upF (upF (upF (upF (upF (upF (upF (upF (upF (upF (upF F 22 c48_F22) 24 d25_F24) 25 d25_F25) 26 d25_F26) 28 d25_F28) 29 d25_F29) 31 d25_F31) 32 d25_F32) 33 d25_F33) 37 d25_F37) 38 d25_F38) 40 d25_F40) 41 d25_F41) 52 d25_F52) 53 d25_F53) 54 d25_F54))) hFc hP1 hD1
                clear hFc hP1 hK1 hD1 hk1 hz1 ht hvm
                generalize H1 = H at hP hS ⊢
                have hP : va_P (dC, dI) vwCl (mW h0 kB kI kZ q (upd (upd (upd (upd (upd (upd (upd g 23 c48_g23) 27 d25_g27) 30 d25_g30) 34 d25_g34) 36 d25_g36) 39 d25_g39) 51 1) (upF (upF (upF (upF (upF (upF (upF (upF (upF (upF (upF (upF (upF (upF (upF (upF F 22 c48_F22) 24 d25_F24) 25 d25_F25) 26 d25_F26) 28 d25_F28) 29 d25_F29) 31 d25_F31) 32 d25_F32) 33 d25_F33) 37 d25_F37) 38 d25_F38) 40 d25_F40) 41 d25_F41) 52 d25_F52) 53 d25_F53) 54 d25_F54)) H := hP
                have hD : va_D A (mW h0 kB kI kZ q (upd (upd (upd (upd (upd (upd (upd g 23 c48_g23) 27 d25_g27) 30 d25_g30) 34 d25_g34) 36 d25_g36) 39 d25_g39) 51 1) (upF (upF (upF (upF (upF (upF (upF (upF (upF (upF (upF (upF (upF (upF (upF (upF F 22 c48_F22) 24 d25_F24) 25 d25_F25) 26 d25_F26) 28 d25_F28) 29 d25_F29) 31 d25_F31) 32 d25_F32) 33 d25_F33) 37 d25_F37) 38 d25_F38) 40 d25_F40) 41 d25_F41) 52 d25_F52) 53 d25_F53) 54 d25_F54)) := hD
                refine lv_aload_n hx hb dX12_make_51 rfl (lv_at hl 0 rfl) ?_
                refine lv_iconst (v := 0) hx hb dX12_make_52 (by decide +kernel) ?_
                refine lv_iload_n hx hb dX12_make_53 rfl (lv_at hl 2 rfl) ?_
                replace hr := b19S hr
                obtain ⟨c54_g23, c54_g27, c54_g30, c54_g34, c54_g36, c54_g39, c54_F22, c54_F24, c54_F25, c54_F26, c54_F28, c54_F29, c54_F31, c54_F32, c54_F33, c54_F37, c54_F38, c54_F40, c54_F41, hc54, hr⟩ := hr
                have hFc := fr_all hD hS hA
                refine va_callv (va_runV (As := [.int 0, .int y25_2]) (rest := []) ⟨hx, hb, hml, hown, hts⟩ (m_through l dC dI H.size h0 kB kI kZ q (upd (upd (upd (upd (upd (upd (upd g 23 c48_g23) 27 d25_g27) 30 d25_g30) 34 d25_g34) 36 d25_g36) 39 d25_g39) 51 1) (upF (upF (upF (upF (upF (upF (upF (upF (upF (upF (upF (upF (upF (upF (upF (upF F 22 c48_F22) 24 d25_F24) 25 d25_F25) 26 d25_F26) 28 d25_F28) 29 d25_F29) 31 d25_F31) 32 d25_F32) 33 d25_F33) 37 d25_F37) 38 d25_F38) 40 d25_F40) 41 d25_F41) 52 d25_F52) 53 d25_F53) 54 d25_F54) 0 y25_2 c54_g23 c54_g27 c54_g30 c54_g34 c54_g36 c54_g39 c54_F22 c54_F24 c54_F25 c54_F26 c54_F28 c54_F29 c54_F31 c54_F32 c54_F33 c54_F37 c54_F38 c54_F40 c54_F41 hc54) (cwV 2 hts gw_X12_through_303 rfl rfl rfl (by decide +kernel) ⟨Nat.le_of_ble_eq_true rfl, Nat.le_of_ble_eq_true rfl⟩) ⟨fun a U g mk q => by obtain ⟨q0, q1, qP, qK, qD⟩ := q; exact ⟨q0, q1, qP, va_K.moved (u := U) (U := U.calling g mk a) (Vm.Alike.refl U.vm) qK, qD⟩, va_recv hK hP (ci := 12) (q0 := 0) rfl rfl, fun U hU hW => ⟨rfl, by rw [hU], by rw [hU]; exact hP, va_K.moved hW.alike hK, hD.weaken (fun _ _ _ _ => trivial)⟩⟩ rfl rfl hl.1 rfl (lv_room (Nat.le_of_ble_eq_true rfl)) dX12_make_54 ⟨Nat.le_of_ble_eq_true rfl, Nat.le_of_ble_eq_true rfl⟩) hS (fun q _ h => hFc q h) hFc (fun u t H1 locs ht hvm hw hB hz1 hk1 hS => ?_)
                obtain ⟨hP1, hK1, hD1⟩ := hB
                rw [ht] at hP1
                obtain ⟨hP, hD⟩ := jn_all (w1 := (mW h0 kB kI kZ q (upd (upd (upd (upd (upd (upd (upd g 23 c54_g23) 27 c54_g27) 30 c54_g30) 34 c54_g34) 36 c54_g36) 39 c54_g39) 51 1) (upF (upF (upF (upF (upF (upF (upF (upF (upF (upF (upF (upF (upF (upF (upF (upF F 22 c54_F22) 24 c54_F24) 25 c54_F25) 26 c54_F26) 28 c54_F28) 29 c54_F29) 31 c54_F31) 32 c54_F32) 33 c54_F33) 37 c54_F37) 38 c54_F38) 40 c54_F40) 41 c54_F41) 52 d25_F52) 53 d25_F53) 54 d25_F54))) hFc hP1 hD1
                clear hFc hP1 hK1 hD1 hk1 hz1 ht hvm
                generalize H1 = H at hP hS ⊢
                have hP : va_P (dC, dI) vwCl (mW h0 kB kI kZ q (upd (upd (upd (upd (upd (upd (upd g 23 c54_g23) 27 c54_g27) 30 c54_g30) 34 c54_g34) 36 c54_g36) 39 c54_g39) 51 1) (upF (upF (upF (upF (upF (upF (upF (upF (upF (upF (upF (upF (upF (upF (upF (upF F 22 c54_F22) 24 c54_F24) 25 c54_F25) 26 c54_F26) 28 c54_F28) 29 c54_F29) 31 c54_F31) 32 c54_F32) 33 c54_F33) 37 c54_F37) 38 c54_F38) 40 c54_F40) 41 c54_F41) 52 d25_F52) 53 d25_F53) 54 d25_F54)) H := hP
                have hD : va_D A (mW h0 kB kI kZ q (upd (upd (upd (upd (upd (upd (upd g 23 c54_g23) 27 c54_g27) 30 c54_g30) 34 c54_g34) 36 c54_g36) 39 c54_g39) 51 1) (upF (upF (upF (upF (upF (upF (upF (upF (upF (upF (upF (upF (upF (upF (upF (upF F 22 c54_F22) 24 c54_F24) 25 c54_F25) 26 c54_F26) 28 c54_F28) 29 c54_F29) 31 c54_F31) 32 c54_F32) 33 c54_F33) 37 c54_F37) 38 c54_F38) 40 c54_F40) 41 c54_F41) 52 d25_F52) 53 d25_F53) 54 d25_F54)) := hD
                refine lv_bipush (v := 7) hx hb dX12_make_57 (by decide +kernel) ?_
                refine lv_iload_n hx hb dX12_make_59 rfl (lv_at hl 1 rfl) ?_
                refine lv_imul hx hb dX12_make_60 ?_
                refine lv_iload_n hx hb dX12_make_61 rfl (lv_at hl 2 rfl) ?_
                refine lv_iadd hx hb dX12_make_62 ?_
                refine lv_topi (fun x63 ex63 => ?_)
                replace hr := vlS hr x63 ex63
                clear ex63
                refine lv_istore_n (lv' := [(3, .int x63), (0, .ref h0), (1, .int y15_1), (2, .int y25_2)]) hx hb dX12_make_63 rfl hl (by decide) rfl (fun ls hl => ?_)
                refine lv_aload_n hx hb dX12_make_64 rfl (lv_at hl 1 rfl) ?_
                refine va_get (D := (dC, dI)) (ci := 12) (v := .ref (q 54)) (C := RX12) (T := TX12) (N := 71) hx hb hts inX12 hown hK hP 0 rfl rfl 54 (by decide) (hts (.fieldLink RX12 119 "SpellTurnerModel" "formMany" "[I") im_107) (fun _ h9 => h9) rfl dX12_make_65 ?_
                refine lv_iload_n hx hb dX12_make_68 rfl (lv_at hl 0 rfl) ?_
                refine lv_aload_n hx hb dX12_make_69 rfl (lv_at hl 1 rfl) ?_
                refine va_get (D := (dC, dI)) (ci := 12) (v := .int c54_g39) (C := RX12) (T := TX12) (N := 71) hx hb hts inX12 hown hK hP 0 rfl rfl 39 (by decide) (hts (.fieldLink RX12 287 "SpellTurnerModel" "nows" "I") im_176) (fun _ h9 => h9) rfl dX12_make_70 ?_
                replace hr := iteS hr
                obtain ⟨hi73, hr⟩ := hr
                refine va_iast (f := d25_F54) hx hb hK hP hD hS 35 1 rfl rfl (inbV hi73) dX12_make_73 (fun H locs hP hD hS => ?_)
                obtain ⟨w73, ew73, hP, hD⟩ : ∃ w73 : Nat → Int32, w73 = (upd d25_F54 (Int32.toNatClampNeg x63) c54_g39) ∧ va_P (dC, dI) vwCl (mW h0 kB kI kZ q (upd (upd (upd (upd (upd (upd (upd g 23 c54_g23) 27 c54_g27) 30 c54_g30) 34 c54_g34) 36 c54_g36) 39 c54_g39) 51 1) (upF (upF (upF (upF (upF (upF (upF (upF (upF (upF (upF (upF (upF (upF (upF (upF F 22 c54_F22) 24 c54_F24) 25 c54_F25) 26 c54_F26) 28 c54_F28) 29 c54_F29) 31 c54_F31) 32 c54_F32) 33 c54_F33) 37 c54_F37) 38 c54_F38) 40 c54_F40) 41 c54_F41) 52 d25_F52) 53 d25_F53) 54 w73)) H ∧ va_D A (mW h0 kB kI kZ q (upd (upd (upd (upd (upd (upd (upd g 23 c54_g23) 27 c54_g27) 30 c54_g30) 34 c54_g34) 36 c54_g36) 39 c54_g39) 51 1) (upF (upF (upF (upF (upF (upF (upF (upF (upF (upF (upF (upF (upF (upF (upF (upF F 22 c54_F22) 24 c54_F24) 25 c54_F25) 26 c54_F26) 28 c54_F28) 29 c54_F29) 31 c54_F31) 32 c54_F32) 33 c54_F33) 37 c54_F37) 38 c54_F38) 40 c54_F40) 41 c54_F41) 52 d25_F52) 53 d25_F53) 54 w73)) := ⟨(upd d25_F54 (Int32.toNatClampNeg x63) c54_g39), rfl, by first | exact sP_F54 hP upF_same | exact sP_F54 hP rfl | exact hP, by first | exact sD_F54 hD upF_same | exact sD_F54 hD rfl | exact hD⟩
                replace hr := vlS hr w73 ew73
                clear ew73
                refine lv_iconst (v := 0) hx hb dX12_make_74 (by decide +kernel) ?_
                refine lv_istore (lv' := [(4, .int 0), (3, .int x63), (0, .ref h0), (1, .int y15_1), (2, .int y25_2)]) hx hb dX12_make_75 hl (by decide) rfl (fun ls hl => ?_)
                replace hr := jnS hr
                obtain ⟨k163, hk163, hr⟩ := hr
                have Jk163 : ∀ (c163_F52 : (Nat → Int32)) (c163_F53 : (Nat → Int32)) (H : Heap) (locs : List Loc) (ls : Array Slot), k163 c163_F52 c163_F53 = some (c_g23, c_g27, c_g30, c_g34, c_g36, c_g39, c_g51, c_F22, c_F24, c_F25, c_F26, c_F28, c_F29, c_F31, c_F32, c_F33, c_F37, c_F38, c_F40, c_F41, c_F52, c_F53, c_F54) → va_P (dC, dI) vwCl (mW h0 kB kI kZ q (upd (upd (upd (upd (upd (upd (upd g 23 c54_g23) 27 c54_g27) 30 c54_g30) 34 c54_g34) 36 c54_g36) 39 c54_g39) 51 1) (upF (upF (upF (upF (upF (upF (upF (upF (upF (upF (upF (upF (upF (upF (upF (upF F 22 c54_F22) 24 c54_F24) 25 c54_F25) 26 c54_F26) 28 c54_F28) 29 c54_F29) 31 c54_F31) 32 c54_F32) 33 c54_F33) 37 c54_F37) 38 c54_F38) 40 c54_F40) 41 c54_F41) 52 c163_F52) 53 c163_F53) 54 w73)) H → va_D A (mW h0 kB kI kZ q (upd (upd (upd (upd (upd (upd (upd g 23 c54_g23) 27 c54_g27) 30 c54_g30) 34 c54_g34) 36 c54_g36) 39 c54_g39) 51 1) (upF (upF (upF (upF (upF (upF (upF (upF (upF (upF (upF (upF (upF (upF (upF (upF F 22 c54_F22) 24 c54_F24) 25 c54_F25) 26 c54_F26) 28 c54_F28) 29 c54_F29) 31 c54_F31) 32 c54_F32) 33 c54_F33) 37 c54_F37) 38 c54_F38) 40 c54_F40) 41 c54_F41) 52 c163_F52) 53 c163_F53) 54 w73)) → va_S A s.heap H locs → lv_has ls 6 [(0, .ref h0), (1, .int y15_1), (2, .int y25_2)] → W p l e ({ frames := 47, cells := 0, slots := 0, locals := 1146 } : Room) s m args below meth c H locs 0 0 Q (F0 m 163 ls []) := by
                  intro c163_F52 c163_F53 H locs ls hr hP hD hS hl
                  rw [hk163] at hr
                  refine lv_iinc (v := (y25_2 + 1)) (lv' := [(2, .int (y25_2 + 1)), (0, .ref h0), (1, .int y15_1)]) hx hb dX12_make_163 hl (k := 2) rfl rfl (by decide) rfl (fun ls hl => ?_)
                  refine lv_goto (tgt := 25) hx hb dX12_make_166 (by decide) ?_
                  exact ih25 (y25_2 + 1) c54_g23 c54_g27 c54_g30 c54_g34 c54_g36 c54_g39 c54_F22 c54_F24 c54_F25 c54_F26 c54_F28 c54_F29 c54_F31 c54_F32 c54_F33 c54_F37 c54_F38 c54_F40 c54_F41 c163_F52 c163_F53 w73 H _ ls hr hP hD hS (lv_sub hl [1, 2, 0] rfl)
                have lp77 : ∀ (n77 : Nat) (y77_4 : Int32) (d77_F52 : (Nat → Int32)) (d77_F53 : (Nat → Int32)) (H : Heap) (locs : List Loc) (ls : Array Slot), L_make_77 c54_g39 c54_F37 c54_F38 x63 k163 n77 y77_4 d77_F52 d77_F53 = some (c_g23, c_g27, c_g30, c_g34, c_g36, c_g39, c_g51, c_F22, c_F24, c_F25, c_F26, c_F28, c_F29, c_F31, c_F32, c_F33, c_F37, c_F38, c_F40, c_F41, c_F52, c_F53, c_F54) → va_P (dC, dI) vwCl (mW h0 kB kI kZ q (upd (upd (upd (upd (upd (upd (upd g 23 c54_g23) 27 c54_g27) 30 c54_g30) 34 c54_g34) 36 c54_g36) 39 c54_g39) 51 1) (upF (upF (upF (upF (upF (upF (upF (upF (upF (upF (upF (upF (upF (upF (upF (upF F 22 c54_F22) 24 c54_F24) 25 c54_F25) 26 c54_F26) 28 c54_F28) 29 c54_F29) 31 c54_F31) 32 c54_F32) 33 c54_F33) 37 c54_F37) 38 c54_F38) 40 c54_F40) 41 c54_F41) 52 d77_F52) 53 d77_F53) 54 w73)) H → va_D A (mW h0 kB kI kZ q (upd (upd (upd (upd (upd (upd (upd g 23 c54_g23) 27 c54_g27) 30 c54_g30) 34 c54_g34) 36 c54_g36) 39 c54_g39) 51 1) (upF (upF (upF (upF (upF (upF (upF (upF (upF (upF (upF (upF (upF (upF (upF (upF F 22 c54_F22) 24 c54_F24) 25 c54_F25) 26 c54_F26) 28 c54_F28) 29 c54_F29) 31 c54_F31) 32 c54_F32) 33 c54_F33) 37 c54_F37) 38 c54_F38) 40 c54_F40) 41 c54_F41) 52 d77_F52) 53 d77_F53) 54 w73)) → va_S A s.heap H locs → lv_has ls 6 [(0, .ref h0), (1, .int y15_1), (2, .int y25_2), (3, .int x63), (4, .int y77_4)] → W p l e ({ frames := 47, cells := 0, slots := 0, locals := 1146 } : Room) s m args below meth c H locs 0 0 Q (F0 m 77 ls []) := by
                  intro n77
                  induction n77 with
                  | zero => intro y77_4 d77_F52 d77_F53 H locs ls hr; exact nomatch (show none = some (c_g23, c_g27, c_g30, c_g34, c_g36, c_g39, c_g51, c_F22, c_F24, c_F25, c_F26, c_F28, c_F29, c_F31, c_F32, c_F33, c_F37, c_F38, c_F40, c_F41, c_F52, c_F53, c_F54) from hr)
                  | succ n77 ih77 =>
                    intro y77_4 d77_F52 d77_F53 H locs ls hr hP hD hS hl
                    replace hr : B_make_77 c54_g39 c54_F37 c54_F38 x63 k163 (L_make_77 c54_g39 c54_F37 c54_F38 x63 k163 n77) y77_4 d77_F52 d77_F53 = some (c_g23, c_g27, c_g30, c_g34, c_g36, c_g39, c_g51, c_F22, c_F24, c_F25, c_F26, c_F28, c_F29, c_F31, c_F32, c_F33, c_F37, c_F38, c_F40, c_F41, c_F52, c_F53, c_F54) := hr
                    unfold B_make_77 at hr
                    refine lv_iload hx hb dX12_make_77 (lv_at hl 4 rfl) ?_
                    refine lv_aload_n hx hb dX12_make_79 rfl (lv_at hl 0 rfl) ?_
                    refine va_get (D := (dC, dI)) (ci := 12) (v := .int c54_g39) (C := RX12) (T := TX12) (N := 71) hx hb hts inX12 hown hK hP 0 rfl rfl 39 (by decide) (hts (.fieldLink RX12 287 "SpellTurnerModel" "nows" "I") im_176) (fun _ h9 => h9) rfl dX12_make_80 ?_
                    refine lv_icmp_ge (tgt := 163) hx hb dX12_make_83 (by decide) (fun c83 => ?_) (fun c83 => ?_)
                    · replace hr := iteT c83 hr
                      exact Jk163 d77_F52 d77_F53 H _ ls hr hP hD hS (lv_sub hl [0, 1, 2] rfl)
                    · replace hr := iteF c83 hr
                      refine lv_aload_n hx hb dX12_make_86 rfl (lv_at hl 0 rfl) ?_
                      refine va_get (D := (dC, dI)) (ci := 12) (v := .ref (q 53)) (C := RX12) (T := TX12) (N := 71) hx hb hts inX12 hown hK hP 0 rfl rfl 53 (by decide) (hts (.fieldLink RX12 116 "SpellTurnerModel" "formSize" "[I") im_109) (fun _ h9 => h9) rfl dX12_make_87 ?_
                      refine lv_bipush (v := 12) hx hb dX12_make_90 (by decide +kernel) ?_
                      refine lv_iload_n hx hb dX12_make_92 rfl (lv_at hl 3 rfl) ?_
                      refine lv_imul hx hb dX12_make_93 ?_
                      refine lv_iload hx hb dX12_make_94 (lv_at hl 4 rfl) ?_
                      refine lv_iadd hx hb dX12_make_96 ?_
                      refine lv_aload_n hx hb dX12_make_97 rfl (lv_at hl 0 rfl) ?_
                      refine va_get (D := (dC, dI)) (ci := 12) (v := .ref (q 38)) (C := RX12) (T := TX12) (N := 71) hx hb hts inX12 hown hK hP 0 rfl rfl 38 (by decide) (hts (.fieldLink RX12 85 "SpellTurnerModel" "nowSize" "[I") im_175) (fun _ h9 => h9) rfl dX12_make_98 ?_
                      refine lv_iload hx hb dX12_make_101 (lv_at hl 4 rfl) ?_
                      replace hr := iteS hr
                      obtain ⟨hi103, hr⟩ := hr
                      refine va_iald (f := c54_F38) hx hb hK hP 24 1 rfl rfl (inbV hi103) dX12_make_103 ?_
                      replace hr := iteS hr
                      obtain ⟨hi104, hr⟩ := hr
                      refine va_iast (f := d77_F53) hx hb hK hP hD hS 34 1 rfl rfl (inbV hi104) dX12_make_104 (fun H locs hP hD hS => ?_)
                      obtain ⟨w104, ew104, hP, hD⟩ : ∃ w104 : Nat → Int32, w104 = (upd d77_F53 (Int32.toNatClampNeg ((12 * x63) + y77_4)) (c54_F38 (Int32.toNatClampNeg y77_4))) ∧ va_P (dC, dI) vwCl (mW h0 kB kI kZ q (upd (upd (upd (upd (upd (upd (upd g 23 c54_g23) 27 c54_g27) 30 c54_g30) 34 c54_g34) 36 c54_g36) 39 c54_g39) 51 1) (upF (upF (upF (upF (upF (upF (upF (upF (upF (upF (upF (upF (upF (upF (upF (upF F 22 c54_F22) 24 c54_F24) 25 c54_F25) 26 c54_F26) 28 c54_F28) 29 c54_F29) 31 c54_F31) 32 c54_F32) 33 c54_F33) 37 c54_F37) 38 c54_F38) 40 c54_F40) 41 c54_F41) 52 d77_F52) 53 w104) 54 w73)) H ∧ va_D A (mW h0 kB kI kZ q (upd (upd (upd (upd (upd (upd (upd g 23 c54_g23) 27 c54_g27) 30 c54_g30) 34 c54_g34) 36 c54_g36) 39 c54_g39) 51 1) (upF (upF (upF (upF (upF (upF (upF (upF (upF (upF (upF (upF (upF (upF (upF (upF F 22 c54_F22) 24 c54_F24) 25 c54_F25) 26 c54_F26) 28 c54_F28) 29 c54_F29) 31 c54_F31) 32 c54_F32) 33 c54_F33) 37 c54_F37) 38 c54_F38) 40 c54_F40) 41 c54_F41) 52 d77_F52) 53 w104) 54 w73)) := ⟨(upd d77_F53 (Int32.toNatClampNeg ((12 * x63) + y77_4)) (c54_F38 (Int32.toNatClampNeg y77_4))), rfl, by first | exact sP_F53 hP (upF_in (by decide) upF_same) | exact sP_F53 hP (upF_in (by decide) rfl) | exact hP, by first | exact sD_F53 hD (upF_in (by decide) upF_same) | exact sD_F53 hD (upF_in (by decide) rfl) | exact hD⟩
                      replace hr := vlS hr w104 ew104
                      clear ew104
                      refine lv_iconst (v := 0) hx hb dX12_make_105 (by decide +kernel) ?_
                      refine lv_istore (lv' := [(5, .int 0), (0, .ref h0), (1, .int y15_1), (2, .int y25_2), (3, .int x63), (4, .int y77_4)]) hx hb dX12_make_106 hl (by decide) rfl (fun ls hl => ?_)
                      replace hr := jnS hr
                      obtain ⟨k157, hk157, hr⟩ := hr
                      have Jk157 : ∀ (c157_F52 : (Nat → Int32)) (H : Heap) (locs : List Loc) (ls : Array Slot), k157 c157_F52 = some (c_g23, c_g27, c_g30, c_g34, c_g36, c_g39, c_g51, c_F22, c_F24, c_F25, c_F26, c_F28, c_F29, c_F31, c_F32, c_F33, c_F37, c_F38, c_F40, c_F41, c_F52, c_F53, c_F54) → va_P (dC, dI) vwCl (mW h0 kB kI kZ q (upd (upd (upd (upd (upd (upd (upd g 23 c54_g23) 27 c54_g27) 30 c54_g30) 34 c54_g34) 36 c54_g36) 39 c54_g39) 51 1) (upF (upF (upF (upF (upF (upF (upF (upF (upF (upF (upF (upF (upF (upF (upF (upF F 22 c54_F22) 24 c54_F24) 25 c54_F25) 26 c54_F26) 28 c54_F28) 29 c54_F29) 31 c54_F31) 32 c54_F32) 33 c54_F33) 37 c54_F37) 38 c54_F38) 40 c54_F40) 41 c54_F41) 52 c157_F52) 53 w104) 54 w73)) H → va_D A (mW h0 kB kI kZ q (upd (upd (upd (upd (upd (upd (upd g 23 c54_g23) 27 c54_g27) 30 c54_g30) 34 c54_g34) 36 c54_g36) 39 c54_g39) 51 1) (upF (upF (upF (upF (upF (upF (upF (upF (upF (upF (upF (upF (upF (upF (upF (upF F 22 c54_F22) 24 c54_F24) 25 c54_F25) 26 c54_F26) 28 c54_F28) 29 c54_F29) 31 c54_F31) 32 c54_F32) 33 c54_F33) 37 c54_F37) 38 c54_F38) 40 c54_F40) 41 c54_F41) 52 c157_F52) 53 w104) 54 w73)) → va_S A s.heap H locs → lv_has ls 6 [(0, .ref h0), (1, .int y15_1), (2, .int y25_2), (3, .int x63), (4, .int y77_4)] → W p l e ({ frames := 47, cells := 0, slots := 0, locals := 1146 } : Room) s m args below meth c H locs 0 0 Q (F0 m 157 ls []) := by
                        intro c157_F52 H locs ls hr hP hD hS hl
                        rw [hk157] at hr
                        refine lv_iinc (v := (y77_4 + 1)) (lv' := [(4, .int (y77_4 + 1)), (0, .ref h0), (1, .int y15_1), (2, .int y25_2), (3, .int x63)]) hx hb dX12_make_157 hl (k := 4) rfl rfl (by decide) rfl (fun ls hl => ?_)
                        refine lv_goto (tgt := 77) hx hb dX12_make_160 (by decide) ?_
                        exact ih77 (y77_4 + 1) c157_F52 w104 H _ ls hr hP hD hS (lv_sub hl [1, 2, 3, 4, 0] rfl)
                      have lp108 : ∀ (n108 : Nat) (y108_5 : Int32) (d108_F52 : (Nat → Int32)) (H : Heap) (locs : List Loc) (ls : Array Slot), L_make_108 c54_F37 c54_F38 x63 y77_4 k157 n108 y108_5 d108_F52 = some (c_g23, c_g27, c_g30, c_g34, c_g36, c_g39, c_g51, c_F22, c_F24, c_F25, c_F26, c_F28, c_F29, c_F31, c_F32, c_F33, c_F37, c_F38, c_F40, c_F41, c_F52, c_F53, c_F54) → va_P (dC, dI) vwCl (mW h0 kB kI kZ q (upd (upd (upd (upd (upd (upd (upd g 23 c54_g23) 27 c54_g27) 30 c54_g30) 34 c54_g34) 36 c54_g36) 39 c54_g39) 51 1) (upF (upF (upF (upF (upF (upF (upF (upF (upF (upF (upF (upF (upF (upF (upF (upF F 22 c54_F22) 24 c54_F24) 25 c54_F25) 26 c54_F26) 28 c54_F28) 29 c54_F29) 31 c54_F31) 32 c54_F32) 33 c54_F33) 37 c54_F37) 38 c54_F38) 40 c54_F40) 41 c54_F41) 52 d108_F52) 53 w104) 54 w73)) H → va_D A (mW h0 kB kI kZ q (upd (upd (upd (upd (upd (upd (upd g 23 c54_g23) 27 c54_g27) 30 c54_g30) 34 c54_g34) 36 c54_g36) 39 c54_g39) 51 1) (upF (upF (upF (upF (upF (upF (upF (upF (upF (upF (upF (upF (upF (upF (upF (upF F 22 c54_F22) 24 c54_F24) 25 c54_F25) 26 c54_F26) 28 c54_F28) 29 c54_F29) 31 c54_F31) 32 c54_F32) 33 c54_F33) 37 c54_F37) 38 c54_F38) 40 c54_F40) 41 c54_F41) 52 d108_F52) 53 w104) 54 w73)) → va_S A s.heap H locs → lv_has ls 6 [(0, .ref h0), (1, .int y15_1), (2, .int y25_2), (3, .int x63), (4, .int y77_4), (5, .int y108_5)] → W p l e ({ frames := 47, cells := 0, slots := 0, locals := 1146 } : Room) s m args below meth c H locs 0 0 Q (F0 m 108 ls []) := by
                        intro n108
                        induction n108 with
                        | zero => intro y108_5 d108_F52 H locs ls hr; exact nomatch (show none = some (c_g23, c_g27, c_g30, c_g34, c_g36, c_g39, c_g51, c_F22, c_F24, c_F25, c_F26, c_F28, c_F29, c_F31, c_F32, c_F33, c_F37, c_F38, c_F40, c_F41, c_F52, c_F53, c_F54) from hr)
                        | succ n108 ih108 =>
                          intro y108_5 d108_F52 H locs ls hr hP hD hS hl
                          replace hr : B_make_108 c54_F37 c54_F38 x63 y77_4 k157 (L_make_108 c54_F37 c54_F38 x63 y77_4 k157 n108) y108_5 d108_F52 = some (c_g23, c_g27, c_g30, c_g34, c_g36, c_g39, c_g51, c_F22, c_F24, c_F25, c_F26, c_F28, c_F29, c_F31, c_F32, c_F33, c_F37, c_F38, c_F40, c_F41, c_F52, c_F53, c_F54) := hr
                          unfold B_make_108 at hr
                          refine lv_iload hx hb dX12_make_108 (lv_at hl 5 rfl) ?_
                          refine lv_aload_n hx hb dX12_make_110 rfl (lv_at hl 0 rfl) ?_
                          refine va_get (D := (dC, dI)) (ci := 12) (v := .ref (q 38)) (C := RX12) (T := TX12) (N := 71) hx hb hts inX12 hown hK hP 0 rfl rfl 38 (by decide) (hts (.fieldLink RX12 85 "SpellTurnerModel" "nowSize" "[I") im_175) (fun _ h9 => h9) rfl dX12_make_111 ?_
                          refine lv_iload hx hb dX12_make_114 (lv_at hl 4 rfl) ?_
                          replace hr := iteS hr
                          obtain ⟨hi116, hr⟩ := hr
                          refine va_iald (f := c54_F38) hx hb hK hP 24 1 rfl rfl (inbV hi116) dX12_make_116 ?_
                          refine lv_icmp_ge (tgt := 157) hx hb dX12_make_117 (by decide) (fun c117 => ?_) (fun c117 => ?_)
                          · replace hr := iteT c117 hr
                            exact Jk157 d108_F52 H _ ls hr hP hD hS (lv_sub hl [0, 1, 2, 3, 4] rfl)
                          · replace hr := iteF c117 hr
                            refine lv_aload_n hx hb dX12_make_120 rfl (lv_at hl 0 rfl) ?_
                            refine va_get (D := (dC, dI)) (ci := 12) (v := .ref (q 52)) (C := RX12) (T := TX12) (N := 71) hx hb hts inX12 hown hK hP 0 rfl rfl 52 (by decide) (hts (.fieldLink RX12 113 "SpellTurnerModel" "formText" "[B") im_108) (fun _ h9 => h9) rfl dX12_make_121 ?_
                            refine lv_bipush (v := 24) hx hb dX12_make_124 (by decide +kernel) ?_
                            refine lv_bipush (v := 12) hx hb dX12_make_126 (by decide +kernel) ?_
                            refine lv_iload_n hx hb dX12_make_128 rfl (lv_at hl 3 rfl) ?_
                            refine lv_imul hx hb dX12_make_129 ?_
                            refine lv_iload hx hb dX12_make_130 (lv_at hl 4 rfl) ?_
                            refine lv_iadd hx hb dX12_make_132 ?_
                            refine lv_imul hx hb dX12_make_133 ?_
                            refine lv_iload hx hb dX12_make_134 (lv_at hl 5 rfl) ?_
                            refine lv_iadd hx hb dX12_make_136 ?_
                            refine lv_aload_n hx hb dX12_make_137 rfl (lv_at hl 0 rfl) ?_
                            refine va_get (D := (dC, dI)) (ci := 12) (v := .ref (q 37)) (C := RX12) (T := TX12) (N := 71) hx hb hts inX12 hown hK hP 0 rfl rfl 37 (by decide) (hts (.fieldLink RX12 82 "SpellTurnerModel" "now" "[B") im_178) (fun _ h9 => h9) rfl dX12_make_138 ?_
                            refine lv_bipush (v := 24) hx hb dX12_make_141 (by decide +kernel) ?_
                            refine lv_iload hx hb dX12_make_143 (lv_at hl 4 rfl) ?_
                            refine lv_imul hx hb dX12_make_145 ?_
                            refine lv_iload hx hb dX12_make_146 (lv_at hl 5 rfl) ?_
                            refine lv_iadd hx hb dX12_make_148 ?_
                            replace hr := iteS hr
                            obtain ⟨hi149, hr⟩ := hr
                            refine va_bald (f := c54_F37) hx hb hK hP 23 0 rfl rfl (inbV hi149) dX12_make_149 ?_
                            replace hr := iteS hr
                            obtain ⟨hi150, hr⟩ := hr
                            refine va_bast (f := d108_F52) hx hb hK hP hD hS 33 0 rfl rfl (inbV hi150) dX12_make_150 (fun H locs hP hD hS => ?_)
                            obtain ⟨w150, ew150, hP, hD⟩ : ∃ w150 : Nat → Int32, w150 = (upd d108_F52 (Int32.toNatClampNeg ((24 * ((12 * x63) + y77_4)) + y108_5)) (vp_nar .byte (c54_F37 (Int32.toNatClampNeg ((24 * y77_4) + y108_5))))) ∧ va_P (dC, dI) vwCl (mW h0 kB kI kZ q (upd (upd (upd (upd (upd (upd (upd g 23 c54_g23) 27 c54_g27) 30 c54_g30) 34 c54_g34) 36 c54_g36) 39 c54_g39) 51 1) (upF (upF (upF (upF (upF (upF (upF (upF (upF (upF (upF (upF (upF (upF (upF (upF F 22 c54_F22) 24 c54_F24) 25 c54_F25) 26 c54_F26) 28 c54_F28) 29 c54_F29) 31 c54_F31) 32 c54_F32) 33 c54_F33) 37 c54_F37) 38 c54_F38) 40 c54_F40) 41 c54_F41) 52 w150) 53 w104) 54 w73)) H ∧ va_D A (mW h0 kB kI kZ q (upd (upd (upd (upd (upd (upd (upd g 23 c54_g23) 27 c54_g27) 30 c54_g30) 34 c54_g34) 36 c54_g36) 39 c54_g39) 51 1) (upF (upF (upF (upF (upF (upF (upF (upF (upF (upF (upF (upF (upF (upF (upF (upF F 22 c54_F22) 24 c54_F24) 25 c54_F25) 26 c54_F26) 28 c54_F28) 29 c54_F29) 31 c54_F31) 32 c54_F32) 33 c54_F33) 37 c54_F37) 38 c54_F38) 40 c54_F40) 41 c54_F41) 52 w150) 53 w104) 54 w73)) := ⟨(upd d108_F52 (Int32.toNatClampNeg ((24 * ((12 * x63) + y77_4)) + y108_5)) (vp_nar .byte (c54_F37 (Int32.toNatClampNeg ((24 * y77_4) + y108_5))))), rfl, by first | exact sP_F52 hP (upF_in (by decide) (upF_in (by decide) upF_same)) | exact sP_F52 hP (upF_in (by decide) (upF_in (by decide) rfl)) | exact hP, by first | exact sD_F52 hD (upF_in (by decide) (upF_in (by decide) upF_same)) | exact sD_F52 hD (upF_in (by decide) (upF_in (by decide) rfl)) | exact hD⟩
                            replace hr := vlS hr w150 ew150
                            clear ew150
                            refine lv_iinc (v := (y108_5 + 1)) (lv' := [(5, .int (y108_5 + 1)), (0, .ref h0), (1, .int y15_1), (2, .int y25_2), (3, .int x63), (4, .int y77_4)]) hx hb dX12_make_151 hl (k := 5) rfl rfl (by decide) rfl (fun ls hl => ?_)
                            refine lv_goto (tgt := 108) hx hb dX12_make_154 (by decide) ?_
                            exact ih108 (y108_5 + 1) w150 H _ ls hr hP hD hS (lv_sub hl [1, 2, 3, 4, 5, 0] rfl)
                      exact lp108 NN 0 d77_F52 H _ ls hr hP hD hS (lv_sub hl [1, 2, 3, 4, 5, 0] rfl)
                exact lp77 NN 0 d25_F52 d25_F53 H _ ls hr hP hD hS (lv_sub hl [2, 3, 4, 1, 0] rfl)
          exact lp25 NN 0 d15_g23 d15_g27 d15_g30 d15_g34 d15_g36 d15_g39 d15_F22 d15_F24 d15_F25 d15_F26 d15_F28 d15_F29 d15_F31 d15_F32 d15_F33 d15_F37 d15_F38 d15_F40 d15_F41 d15_F52 d15_F53 d15_F54 H _ ls hr hP hD hS (lv_sub hl [1, 2, 0] rfl)
    first | exact lp15 NN 0 (g 23) (g 27) (g 30) (g 34) (g 36) (g 39) (F 22) (F 24) (F 25) (F 26) (F 28) (F 29) (F 31) (F 32) (F 33) (F 37) (F 38) (F 40) (F 41) (F 52) (F 53) (F 54) H _ ls hr (sP_eq (mW_cg (by repeat (first | with_reducible rfl | with_reducible refine upd_cg ?_ | refine Eq.trans ?_ (upd_id rfl))) (by repeat (first | with_reducible rfl | with_reducible refine upF_cg ?_ | refine Eq.trans ?_ (upF_id rfl)))) hP) (sD_eq (mW_cg (by repeat (first | with_reducible rfl | with_reducible refine upd_cg ?_ | refine Eq.trans ?_ (upd_id rfl))) (by repeat (first | with_reducible rfl | with_reducible refine upF_cg ?_ | refine Eq.trans ?_ (upF_id rfl)))) hD) hS (lv_sub hl [1, 0] rfl) | exact lp15 NN 0 (g 23) (g 27) (g 30) (g 34) (g 36) (g 39) (F 22) (F 24) (F 25) (F 26) (F 28) (F 29) (F 31) (F 32) (F 33) (F 37) (F 38) (F 40) (F 41) (F 52) (F 53) (F 54) H _ ls hr hP hD hS (lv_sub hl [1, 0] rfl)
  · replace hr := iteF c4 hr
    first | exact K 7 ls _ _ _ _ _ _ _ _ _ _ _ _ _ _ _ _ _ _ _ _ _ _ _ H _ hr dX12_make_7 (sP_eq (mW_cg (by repeat (first | with_reducible rfl | with_reducible refine upd_cg ?_ | refine Eq.trans ?_ (upd_id rfl))) (by repeat (first | with_reducible rfl | with_reducible refine upF_cg ?_ | refine Eq.trans ?_ (upF_id rfl)))) hP) (sD_eq (mW_cg (by repeat (first | with_reducible rfl | with_reducible refine upd_cg ?_ | refine Eq.trans ?_ (upd_id rfl))) (by repeat (first | with_reducible rfl | with_reducible refine upF_cg ?_ | refine Eq.trans ?_ (upF_id rfl)))) hD) hS | exact K 7 ls _ _ _ _ _ _ _ _ _ _ _ _ _ _ _ _ _ _ _ _ _ _ _ H _ hr dX12_make_7 hP hD hS
set_option maxHeartbeats 4000000 in
set_option maxRecDepth 100000 in
theorem m_make (l : Launch) (dC : Nat → ClassId) (dI : Nat → Nat → Nat) (sz : Nat) (h0 : Nat) (kB kI kZ : ClassId) (q : Nat → Nat) (g : Nat → Int32) (F : Nat → Nat → Int32) (c_g23 : Int32) (c_g27 : Int32) (c_g30 : Int32) (c_g34 : Int32) (c_g36 : Int32) (c_g39 : Int32) (c_g51 : Int32) (c_F22 : (Nat → Int32)) (c_F24 : (Nat → Int32)) (c_F25 : (Nat → Int32)) (c_F26 : (Nat → Int32)) (c_F28 : (Nat → Int32)) (c_F29 : (Nat → Int32)) (c_F31 : (Nat → Int32)) (c_F32 : (Nat → Int32)) (c_F33 : (Nat → Int32)) (c_F37 : (Nat → Int32)) (c_F38 : (Nat → Int32)) (c_F40 : (Nat → Int32)) (c_F41 : (Nat → Int32)) (c_F52 : (Nat → Int32)) (c_F53 : (Nat → Int32)) (c_F54 : (Nat → Int32)) (hr : f_make g F = some (c_g23, c_g27, c_g30, c_g34, c_g36, c_g39, c_g51, c_F22, c_F24, c_F25, c_F26, c_F28, c_F29, c_F31, c_F32, c_F33, c_F37, c_F38, c_F40, c_F41, c_F52, c_F53, c_F54)) : Met l yX12_make vmX12_make ({ frames := 47, cells := 0, slots := 0, locals := 1146 } : Room) (va_Pc [.ref h0] (fun U => U.heap.size = sz ∧ va_P (dC, dI) vwCl (mW h0 kB kI kZ q g F) U.heap ∧ va_K (dC, dI) vwCl (mT kB kI kZ) U ∧ va_D (fun _ => True) (mW h0 kB kI kZ q g F))) (va_Qv (fun _ : Unit => True) (fun _ t => va_P (dC, dI) vwCl (mW h0 kB kI kZ q (upd (upd (upd (upd (upd (upd (upd g 23 c_g23) 27 c_g27) 30 c_g30) 34 c_g34) 36 c_g36) 39 c_g39) 51 c_g51) (upF (upF (upF (upF (upF (upF (upF (upF (upF (upF (upF (upF (upF (upF (upF (upF F 22 c_F22) 24 c_F24) 25 c_F25) 26 c_F26) 28 c_F28) 29 c_F29) 31 c_F31) 32 c_F32) 33 c_F33) 37 c_F37) 38 c_F38) 40 c_F40) 41 c_F41) 52 c_F52) 53 c_F53) 54 c_F54)) t.heap ∧ va_K (dC, dI) vwCl (mT kB kI kZ) t ∧ va_D (va_A (mW h0 kB kI kZ q g F) sz) (mW h0 kB kI kZ q (upd (upd (upd (upd (upd (upd (upd g 23 c_g23) 27 c_g27) 30 c_g30) 34 c_g34) 36 c_g36) 39 c_g39) 51 c_g51) (upF (upF (upF (upF (upF (upF (upF (upF (upF (upF (upF (upF (upF (upF (upF (upF F 22 c_F22) 24 c_F24) 25 c_F25) 26 c_F26) 28 c_F28) 29 c_F29) 31 c_F31) 32 c_F32) 33 c_F33) 37 c_F37) 38 c_F38) 40 c_F40) 41 c_F41) 52 c_F52) 53 c_F53) 54 c_F54))) (va_A (mW h0 kB kI kZ q g F) sz)) 0 0 (va_A (mW h0 kB kI kZ q g F) sz) := by
  refine Met.ofW (cc := cX12_make) (maxL := 6) (ret := none) (by decide) rfl ?_
  intro p e s m args below meth c s₁ B hml hv
  obtain ⟨rfl, hsz, hP, hK, hD0⟩ := hv
  have hx := B.exec
  have hb := B.bytes
  have hrt := B.returns
  have hts := atoms_spec (ws := vmX12_make) B.pre
  have hown : s.vm.findClass RX12 = some m.cls := findClass_of_methodNamed B.named
  subst hsz
  have hD := hD0.self (sz := s.heap.size)
  generalize hAe : va_A (mW h0 kB kI kZ q g F) s.heap.size = A at hD ⊢
  have hA : ∀ q : Nat, s.heap.size ≤ q → A q := fun q h => by rw [← hAe]; exact Or.inr h
  have hS : va_S A s.heap s.heap [] := va_S.rf
  have hl := lv_entry ([.ref h0]) (n := 6) (Nat.le_of_ble_eq_true rfl)
  rw [lg_entry_eq]
  generalize (lg_sl ([.ref h0]) ++ List.replicate (6 - (lg_sl ([.ref h0])).length) Slot.unset).toArray = ls at hl ⊢
  exact bm_make c_g23 c_g27 c_g30 c_g34 c_g36 c_g39 c_g51 c_F22 c_F24 c_F25 c_F26 c_F28 c_F29 c_F31 c_F32 c_F33 c_F37 c_F38 c_F40 c_F41 c_F52 c_F53 c_F54 hr hx hb hml hown hts hA hK hP hD hS hl (fun pc ls c_g23z c_g27z c_g30z c_g34z c_g36z c_g39z c_g51z c_F22z c_F24z c_F25z c_F26z c_F28z c_F29z c_F31z c_F32z c_F33z c_F37z c_F38z c_F40z c_F41z c_F52z c_F53z c_F54z H locs he hd hP hD hS => by cases he; exact W.vret hx hb hrt (fun t ht hW => ⟨⟨(), rfl, trivial, by rw [ht]; exact hP, va_K.moved hW.alike hK, hD⟩, hS.F ht⟩) hS.2.2 hd)
set_option maxHeartbeats 4000000 in
set_option maxRecDepth 100000 in
theorem bm_sameBytes_52_57 {p : Program} {l : Launch} {e : Env} {s : State} {m : MethodId} {args : Array Value} {below : List Frame} {meth : Method} {c : Code} {Q : State → Prop} {A : Nat → Prop} {dC : Nat → ClassId} {dI : Nat → Nat → Nat} {h0 : Nat} {kB kI kZ : ClassId} {q : Nat → Nat} {g : Nat → Int32} {F : Nat → Nat → Int32} {H : Heap} {locs : List Loc} {ls : Array Slot} (p1 : Int32) (p2 : Int32) (p4 : Int32) (p5 : Int32) (r : Int32) (hr : f_sameBytes (F 52) 201600 p1 p2 (F 57) 24 p4 p5 = some r) (hx : p.tables.exec = Jvm.exec) (hb : c.code = cX12_sameBytes) (hml : c.maxLocals = 7) (hown : s.vm.findClass RX12 = some m.cls) (hts : ∀ w ∈ vmX12_sameBytes, w.before args s = true) (hA : ∀ q : Nat, s.heap.size ≤ q → A q) (hK : va_K (dC, dI) vwCl (mT kB kI kZ) s) (hP : va_P (dC, dI) vwCl (mW h0 kB kI kZ q g F) H) (hD : va_D A (mW h0 kB kI kZ q g F)) (hS : va_S A s.heap H locs) (hl : lv_has ls 7 [(0, .ref (q 52)), (1, .int p1), (2, .int p2), (3, .ref (q 57)), (4, .int p4), (5, .int p5)])
    (K : ∀ (pc : Nat) (ls : Array Slot) (rz : Int32) (H : Heap) (locs : List Loc), some rz = some r → is01 rz → decode cX12_sameBytes pc = .ok (.ireturn, 1) → va_P (dC, dI) vwCl (mW h0 kB kI kZ q g F) H → va_D A (mW h0 kB kI kZ q g F) → va_S A s.heap H locs → W p l e ({ frames := 2, cells := 0, slots := 0, locals := 60 } : Room) s m args below meth c H locs 0 0 Q (F0 m pc ls [.int rz])) : W p l e ({ frames := 2, cells := 0, slots := 0, locals := 60 } : Room) s m args below meth c H locs 0 0 Q (F0 m 0 ls []) := by
  unfold f_sameBytes at hr
  refine lv_iload_n hx hb dX12_sameBytes_0 rfl (lv_at hl 2 rfl) ?_
  refine lv_iload hx hb dX12_sameBytes_1 (lv_at hl 5 rfl) ?_
  refine lv_icmp_eq (tgt := 8) hx hb dX12_sameBytes_3 (by decide) (fun c3 => ?_) (fun c3 => ?_)
  · replace hr := iteT c3 hr
    refine lv_iconst (v := 0) hx hb dX12_sameBytes_8 (by decide +kernel) ?_
    refine lv_istore (lv' := [(6, .int 0), (0, .ref (q 52)), (1, .int p1), (2, .int p2), (3, .ref (q 57)), (4, .int p4), (5, .int p5)]) hx hb dX12_sameBytes_9 hl (by decide) rfl (fun ls hl => ?_)
    have lp11 : ∀ (n11 : Nat) (y11_6 : Int32) (H : Heap) (locs : List Loc) (ls : Array Slot), L_sameBytes_11 (F 52) 201600 p1 p2 (F 57) 24 p4 n11 y11_6 = some r → va_P (dC, dI) vwCl (mW h0 kB kI kZ q g F) H → va_D A (mW h0 kB kI kZ q g F) → va_S A s.heap H locs → lv_has ls 7 [(0, .ref (q 52)), (1, .int p1), (2, .int p2), (3, .ref (q 57)), (4, .int p4), (6, .int y11_6)] → W p l e ({ frames := 2, cells := 0, slots := 0, locals := 60 } : Room) s m args below meth c H locs 0 0 Q (F0 m 11 ls []) := by
      intro n11
      induction n11 with
      | zero => intro y11_6 H locs ls hr; exact nomatch (show none = some r from hr)
      | succ n11 ih11 =>
        intro y11_6 H locs ls hr hP hD hS hl
        replace hr : B_sameBytes_11 (F 52) 201600 p1 p2 (F 57) 24 p4 (L_sameBytes_11 (F 52) 201600 p1 p2 (F 57) 24 p4 n11) y11_6 = some r := hr
        unfold B_sameBytes_11 at hr
        refine lv_iload hx hb dX12_sameBytes_11 (lv_at hl 5 rfl) ?_
        refine lv_iload_n hx hb dX12_sameBytes_13 rfl (lv_at hl 2 rfl) ?_
        refine lv_icmp_ge (tgt := 41) hx hb dX12_sameBytes_14 (by decide) (fun c14 => ?_) (fun c14 => ?_)
        · replace hr := iteT c14 hr
          refine lv_iconst (v := 1) hx hb dX12_sameBytes_41 (by decide +kernel) ?_
          exact K 42 ls _ H _ hr (by decide) dX12_sameBytes_42 hP hD hS
        · replace hr := iteF c14 hr
          refine lv_aload_n hx hb dX12_sameBytes_17 rfl (lv_at hl 0 rfl) ?_
          refine lv_iload_n hx hb dX12_sameBytes_18 rfl (lv_at hl 1 rfl) ?_
          refine lv_iload hx hb dX12_sameBytes_19 (lv_at hl 5 rfl) ?_
          refine lv_iadd hx hb dX12_sameBytes_21 ?_
          replace hr := iteS hr
          obtain ⟨hi22, hr⟩ := hr
          refine va_bald (f := (F 52)) hx hb hK hP 33 0 rfl rfl (inbV hi22) dX12_sameBytes_22 ?_
          refine lv_aload_n hx hb dX12_sameBytes_23 rfl (lv_at hl 3 rfl) ?_
          refine lv_iload hx hb dX12_sameBytes_24 (lv_at hl 4 rfl) ?_
          refine lv_iload hx hb dX12_sameBytes_26 (lv_at hl 5 rfl) ?_
          refine lv_iadd hx hb dX12_sameBytes_28 ?_
          replace hr := iteS hr
          obtain ⟨hi29, hr⟩ := hr
          refine va_bald (f := (F 57)) hx hb hK hP 37 0 rfl rfl (inbV hi29) dX12_sameBytes_29 ?_
          refine lv_icmp_eq (tgt := 35) hx hb dX12_sameBytes_30 (by decide) (fun c30 => ?_) (fun c30 => ?_)
          · replace hr := iteT c30 hr
            refine lv_iinc (v := (y11_6 + 1)) (lv' := [(6, .int (y11_6 + 1)), (0, .ref (q 52)), (1, .int p1), (2, .int p2), (3, .ref (q 57)), (4, .int p4)]) hx hb dX12_sameBytes_35 hl (k := 5) rfl rfl (by decide) rfl (fun ls hl => ?_)
            refine lv_goto (tgt := 11) hx hb dX12_sameBytes_38 (by decide) ?_
            exact ih11 (y11_6 + 1) H _ ls hr hP hD hS (lv_sub hl [1, 2, 3, 4, 5, 0] rfl)
          · replace hr := iteF c30 hr
            refine lv_iconst (v := 0) hx hb dX12_sameBytes_33 (by decide +kernel) ?_
            exact K 34 ls _ H _ hr (by decide) dX12_sameBytes_34 hP hD hS
    exact lp11 NN 0 H _ ls hr hP hD hS (lv_sub hl [1, 2, 3, 4, 5, 0] rfl)
  · replace hr := iteF c3 hr
    refine lv_iconst (v := 0) hx hb dX12_sameBytes_6 (by decide +kernel) ?_
    exact K 7 ls _ H _ hr (by decide) dX12_sameBytes_7 hP hD hS
set_option maxHeartbeats 4000000 in
set_option maxRecDepth 100000 in
theorem m_sameBytes_52_57 (l : Launch) (dC : Nat → ClassId) (dI : Nat → Nat → Nat) (sz : Nat) (h0 : Nat) (kB kI kZ : ClassId) (q : Nat → Nat) (g : Nat → Int32) (F : Nat → Nat → Int32) (p1 : Int32) (p2 : Int32) (p4 : Int32) (p5 : Int32) (r : Int32) (hr : f_sameBytes (F 52) 201600 p1 p2 (F 57) 24 p4 p5 = some r) : Met l yX12_sameBytes vmX12_sameBytes ({ frames := 2, cells := 0, slots := 0, locals := 60 } : Room) (va_Pc [.ref (q 52), .int p1, .int p2, .ref (q 57), .int p4, .int p5] (fun U => U.heap.size = sz ∧ va_P (dC, dI) vwCl (mW h0 kB kI kZ q g F) U.heap ∧ va_K (dC, dI) vwCl (mT kB kI kZ) U ∧ va_D (fun _ => True) (mW h0 kB kI kZ q g F))) (va_Qi (fun (rz : Int32) (_ : Unit) => rz = r) (fun _ t => va_P (dC, dI) vwCl (mW h0 kB kI kZ q g F) t.heap ∧ va_K (dC, dI) vwCl (mT kB kI kZ) t ∧ va_D (va_A (mW h0 kB kI kZ q g F) sz) (mW h0 kB kI kZ q g F)) (va_A (mW h0 kB kI kZ q g F) sz)) 0 0 (va_A (mW h0 kB kI kZ q g F) sz) := by
  refine Met.ofW (cc := cX12_sameBytes) (maxL := 7) (ret := (some .boolean)) (by decide) rfl ?_
  intro p e s m args below meth c s₁ B hml hv
  obtain ⟨rfl, hsz, hP, hK, hD0⟩ := hv
  have hx := B.exec
  have hb := B.bytes
  have hrt := B.returns
  have hts := atoms_spec (ws := vmX12_sameBytes) B.pre
  have hown : s.vm.findClass RX12 = some m.cls := findClass_of_methodNamed B.named
  subst hsz
  have hD := hD0.self (sz := s.heap.size)
  generalize hAe : va_A (mW h0 kB kI kZ q g F) s.heap.size = A at hD ⊢
  have hA : ∀ q : Nat, s.heap.size ≤ q → A q := fun q h => by rw [← hAe]; exact Or.inr h
  have hS : va_S A s.heap s.heap [] := va_S.rf
  have hl := lv_entry ([.ref (q 52), .int p1, .int p2, .ref (q 57), .int p4, .int p5]) (n := 7) (Nat.le_of_ble_eq_true rfl)
  rw [lg_entry_eq]
  generalize (lg_sl ([.ref (q 52), .int p1, .int p2, .ref (q 57), .int p4, .int p5]) ++ List.replicate (7 - (lg_sl ([.ref (q 52), .int p1, .int p2, .ref (q 57), .int p4, .int p5])).length) Slot.unset).toArray = ls at hl ⊢
  exact bm_sameBytes_52_57 p1 p2 p4 p5 r hr hx hb hml hown hts hA hK hP hD hS hl (fun pc ls rz H locs he hz hd hP hD hS => by cases he; exact W.zret (v := r) hx hb hrt (z_nb hz) (fun t ht hW => ⟨⟨r, (), rfl, rfl, by rw [ht]; exact hP, va_K.moved hW.alike hK, hD⟩, hS.F ht⟩) hS.2.2 hd)
set_option maxHeartbeats 4000000 in
set_option maxRecDepth 100000 in
theorem bm_hasForm_57 {p : Program} {l : Launch} {e : Env} {s : State} {m : MethodId} {args : Array Value} {below : List Frame} {meth : Method} {c : Code} {Q : State → Prop} {A : Nat → Prop} {dC : Nat → ClassId} {dI : Nat → Nat → Nat} {h0 : Nat} {kB kI kZ : ClassId} {q : Nat → Nat} {g : Nat → Int32} {F : Nat → Nat → Int32} {H : Heap} {locs : List Loc} {ls : Array Slot} (p0 : Int32) (p1 : Int32) (p3 : Int32) (p4 : Int32) (r : Int32) (hr : f_hasForm g F p0 p1 (F 57) 24 p3 p4 = some r) (hx : p.tables.exec = Jvm.exec) (hb : c.code = cX12_hasForm) (hml : c.maxLocals = 7) (hown : s.vm.findClass RX12 = some m.cls) (hts : ∀ w ∈ vmX12_hasForm, w.before args s = true) (hA : ∀ q : Nat, s.heap.size ≤ q → A q) (hK : va_K (dC, dI) vwCl (mT kB kI kZ) s) (hP : va_P (dC, dI) vwCl (mW h0 kB kI kZ q g F) H) (hD : va_D A (mW h0 kB kI kZ q g F)) (hS : va_S A s.heap H locs) (hl : lv_has ls 7 [(0, .ref h0), (1, .int p0), (2, .int p1), (3, .ref (q 57)), (4, .int p3), (5, .int p4)])
    (K : ∀ (pc : Nat) (ls : Array Slot) (rz : Int32) (H : Heap) (locs : List Loc), some rz = some r → is01 rz → decode cX12_hasForm pc = .ok (.ireturn, 1) → va_P (dC, dI) vwCl (mW h0 kB kI kZ q g F) H → va_D A (mW h0 kB kI kZ q g F) → va_S A s.heap H locs → W p l e ({ frames := 3, cells := 0, slots := 0, locals := 86 } : Room) s m args below meth c H locs 0 0 Q (F0 m pc ls [.int rz])) : W p l e ({ frames := 3, cells := 0, slots := 0, locals := 86 } : Room) s m args below meth c H locs 0 0 Q (F0 m 0 ls []) := by
  unfold f_hasForm at hr
  refine lv_bipush (v := 12) hx hb dX12_hasForm_0 (by decide +kernel) ?_
  refine lv_bipush (v := 7) hx hb dX12_hasForm_2 (by decide +kernel) ?_
  refine lv_iload_n hx hb dX12_hasForm_4 rfl (lv_at hl 1 rfl) ?_
  refine lv_imul hx hb dX12_hasForm_5 ?_
  refine lv_iload_n hx hb dX12_hasForm_6 rfl (lv_at hl 2 rfl) ?_
  refine lv_iadd hx hb dX12_hasForm_7 ?_
  refine lv_imul hx hb dX12_hasForm_8 ?_
  refine lv_topi (fun x9 ex9 => ?_)
  replace hr := vlS hr x9 ex9
  clear ex9
  refine lv_istore (lv' := [(6, .int x9), (0, .ref h0), (1, .int p0), (2, .int p1), (3, .ref (q 57)), (4, .int p3), (5, .int p4)]) hx hb dX12_hasForm_9 hl (by decide) rfl (fun ls hl => ?_)
  have lp11 : ∀ (n11 : Nat) (y11_6 : Int32) (H : Heap) (locs : List Loc) (ls : Array Slot), L_hasForm_11 F p0 p1 (F 57) 24 p3 p4 n11 y11_6 = some r → va_P (dC, dI) vwCl (mW h0 kB kI kZ q g F) H → va_D A (mW h0 kB kI kZ q g F) → va_S A s.heap H locs → lv_has ls 7 [(0, .ref h0), (1, .int p0), (2, .int p1), (3, .ref (q 57)), (4, .int p3), (5, .int p4), (6, .int y11_6)] → W p l e ({ frames := 3, cells := 0, slots := 0, locals := 86 } : Room) s m args below meth c H locs 0 0 Q (F0 m 11 ls []) := by
    intro n11
    induction n11 with
    | zero => intro y11_6 H locs ls hr; exact nomatch (show none = some r from hr)
    | succ n11 ih11 =>
      intro y11_6 H locs ls hr hP hD hS hl
      replace hr : B_hasForm_11 F p0 p1 (F 57) 24 p3 p4 (L_hasForm_11 F p0 p1 (F 57) 24 p3 p4 n11) y11_6 = some r := hr
      unfold B_hasForm_11 at hr
      refine lv_iload hx hb dX12_hasForm_11 (lv_at hl 6 rfl) ?_
      refine lv_bipush (v := 12) hx hb dX12_hasForm_13 (by decide +kernel) ?_
      refine lv_bipush (v := 7) hx hb dX12_hasForm_15 (by decide +kernel) ?_
      refine lv_iload_n hx hb dX12_hasForm_17 rfl (lv_at hl 1 rfl) ?_
      refine lv_imul hx hb dX12_hasForm_18 ?_
      refine lv_iload_n hx hb dX12_hasForm_19 rfl (lv_at hl 2 rfl) ?_
      refine lv_iadd hx hb dX12_hasForm_20 ?_
      refine lv_imul hx hb dX12_hasForm_21 ?_
      refine lv_aload_n hx hb dX12_hasForm_22 rfl (lv_at hl 0 rfl) ?_
      refine va_get (D := (dC, dI)) (ci := 12) (v := .ref (q 54)) (C := RX12) (T := TX12) (N := 71) hx hb hts inX12 hown hK hP 0 rfl rfl 54 (by decide) (hts (.fieldLink RX12 119 "SpellTurnerModel" "formMany" "[I") im_107) (fun _ h9 => h9) rfl dX12_hasForm_23 ?_
      refine lv_bipush (v := 7) hx hb dX12_hasForm_26 (by decide +kernel) ?_
      refine lv_iload_n hx hb dX12_hasForm_28 rfl (lv_at hl 1 rfl) ?_
      refine lv_imul hx hb dX12_hasForm_29 ?_
      refine lv_iload_n hx hb dX12_hasForm_30 rfl (lv_at hl 2 rfl) ?_
      refine lv_iadd hx hb dX12_hasForm_31 ?_
      replace hr := iteS hr
      obtain ⟨hi32, hr⟩ := hr
      refine va_iald (f := (F 54)) hx hb hK hP 35 1 rfl rfl (inbV hi32) dX12_hasForm_32 ?_
      refine lv_iadd hx hb dX12_hasForm_33 ?_
      refine lv_icmp_ge (tgt := 72) hx hb dX12_hasForm_34 (by decide) (fun c34 => ?_) (fun c34 => ?_)
      · replace hr := iteT c34 hr
        refine lv_iconst (v := 0) hx hb dX12_hasForm_72 (by decide +kernel) ?_
        exact K 73 ls _ H _ hr (by decide) dX12_hasForm_73 hP hD hS
      · replace hr := iteF c34 hr
        refine lv_aload_n hx hb dX12_hasForm_37 rfl (lv_at hl 0 rfl) ?_
        refine va_get (D := (dC, dI)) (ci := 12) (v := .ref (q 52)) (C := RX12) (T := TX12) (N := 71) hx hb hts inX12 hown hK hP 0 rfl rfl 52 (by decide) (hts (.fieldLink RX12 113 "SpellTurnerModel" "formText" "[B") im_108) (fun _ h9 => h9) rfl dX12_hasForm_38 ?_
        refine lv_bipush (v := 24) hx hb dX12_hasForm_41 (by decide +kernel) ?_
        refine lv_iload hx hb dX12_hasForm_43 (lv_at hl 6 rfl) ?_
        refine lv_imul hx hb dX12_hasForm_45 ?_
        refine lv_aload_n hx hb dX12_hasForm_46 rfl (lv_at hl 0 rfl) ?_
        refine va_get (D := (dC, dI)) (ci := 12) (v := .ref (q 53)) (C := RX12) (T := TX12) (N := 71) hx hb hts inX12 hown hK hP 0 rfl rfl 53 (by decide) (hts (.fieldLink RX12 116 "SpellTurnerModel" "formSize" "[I") im_109) (fun _ h9 => h9) rfl dX12_hasForm_47 ?_
        refine lv_iload hx hb dX12_hasForm_50 (lv_at hl 6 rfl) ?_
        replace hr := iteS hr
        obtain ⟨hi52, hr⟩ := hr
        refine va_iald (f := (F 53)) hx hb hK hP 34 1 rfl rfl (inbV hi52) dX12_hasForm_52 ?_
        refine lv_aload_n hx hb dX12_hasForm_53 rfl (lv_at hl 3 rfl) ?_
        refine lv_iload hx hb dX12_hasForm_54 (lv_at hl 4 rfl) ?_
        refine lv_iload hx hb dX12_hasForm_56 (lv_at hl 5 rfl) ?_
        replace hr := b1S hr
        obtain ⟨r58z, hc58, hr⟩ := hr
        have hFc := fr_all hD hS hA
        refine va_calli (va_runS (As := [.ref (q 52), .int (24 * y11_6), .int ((F 53) (Int32.toNatClampNeg y11_6)), .ref (q 57), .int p3, .int p4]) (rest := []) ⟨hx, hb, hml, hown, hts⟩ (m_sameBytes_52_57 l dC dI H.size h0 kB kI kZ q g F (24 * y11_6) ((F 53) (Int32.toNatClampNeg y11_6)) p3 p4 r58z hc58) (va_cwS 6 hts gw_X12_sameBytes_273 rfl rfl rfl (by decide +kernel) ⟨Nat.le_of_ble_eq_true rfl, Nat.le_of_ble_eq_true rfl⟩) ⟨fun a U g mk q => by obtain ⟨q0, q1, qP, qK, qD⟩ := q; exact ⟨q0, q1, qP, va_K.moved (u := U) (U := U.calling g mk a) (Vm.Alike.refl U.vm) qK, qD⟩, fun U hU hW => ⟨rfl, by rw [hU], by rw [hU]; exact hP, va_K.moved hW.alike hK, hD.weaken (fun _ _ _ _ => trivial)⟩⟩ rfl rfl hl.1 rfl (lv_room (Nat.le_of_ble_eq_true rfl)) dX12_hasForm_58 ⟨Nat.le_of_ble_eq_true rfl, Nat.le_of_ble_eq_true rfl⟩) hS (fun q _ h => hFc q h) hFc (fun r58 u t H1 locs ht hvm hw hB hz1 hk1 hS => ?_)
        replace hw : r58 = r58z := hw
        subst hw
        obtain ⟨hP1, hK1, hD1⟩ := hB
        rw [ht] at hP1
        obtain ⟨hP, hD⟩ := jn_all (w1 := (mW h0 kB kI kZ q g F)) hFc hP1 hD1
        clear hFc hP1 hK1 hD1 hk1 hz1 ht hvm
        generalize H1 = H at hP hS ⊢
        have hP : va_P (dC, dI) vwCl (mW h0 kB kI kZ q g F) H := hP
        have hD : va_D A (mW h0 kB kI kZ q g F) := hD
        refine lv_if_eq (tgt := 66) hx hb dX12_hasForm_61 (by decide) (fun c61 => ?_) (fun c61 => ?_)
        · replace hr := iteT c61 hr
          refine lv_iinc (v := (y11_6 + 1)) (lv' := [(6, .int (y11_6 + 1)), (0, .ref h0), (1, .int p0), (2, .int p1), (3, .ref (q 57)), (4, .int p3), (5, .int p4)]) hx hb dX12_hasForm_66 hl (k := 6) rfl rfl (by decide) rfl (fun ls hl => ?_)
          refine lv_goto (tgt := 11) hx hb dX12_hasForm_69 (by decide) ?_
          exact ih11 (y11_6 + 1) H _ ls hr hP hD hS (lv_sub hl [1, 2, 3, 4, 5, 6, 0] rfl)
        · replace hr := iteF c61 hr
          refine lv_iconst (v := 1) hx hb dX12_hasForm_64 (by decide +kernel) ?_
          exact K 65 ls _ H _ hr (by decide) dX12_hasForm_65 hP hD hS
  exact lp11 NN x9 H _ ls hr hP hD hS (lv_sub hl [1, 2, 3, 4, 5, 6, 0] rfl)
set_option maxHeartbeats 4000000 in
set_option maxRecDepth 100000 in
theorem m_hasForm_57 (l : Launch) (dC : Nat → ClassId) (dI : Nat → Nat → Nat) (sz : Nat) (h0 : Nat) (kB kI kZ : ClassId) (q : Nat → Nat) (g : Nat → Int32) (F : Nat → Nat → Int32) (p0 : Int32) (p1 : Int32) (p3 : Int32) (p4 : Int32) (r : Int32) (hr : f_hasForm g F p0 p1 (F 57) 24 p3 p4 = some r) : Met l yX12_hasForm vmX12_hasForm ({ frames := 3, cells := 0, slots := 0, locals := 86 } : Room) (va_Pc [.ref h0, .int p0, .int p1, .ref (q 57), .int p3, .int p4] (fun U => U.heap.size = sz ∧ va_P (dC, dI) vwCl (mW h0 kB kI kZ q g F) U.heap ∧ va_K (dC, dI) vwCl (mT kB kI kZ) U ∧ va_D (fun _ => True) (mW h0 kB kI kZ q g F))) (va_Qi (fun (rz : Int32) (_ : Unit) => rz = r) (fun _ t => va_P (dC, dI) vwCl (mW h0 kB kI kZ q g F) t.heap ∧ va_K (dC, dI) vwCl (mT kB kI kZ) t ∧ va_D (va_A (mW h0 kB kI kZ q g F) sz) (mW h0 kB kI kZ q g F)) (va_A (mW h0 kB kI kZ q g F) sz)) 0 0 (va_A (mW h0 kB kI kZ q g F) sz) := by
  refine Met.ofW (cc := cX12_hasForm) (maxL := 7) (ret := (some .boolean)) (by decide) rfl ?_
  intro p e s m args below meth c s₁ B hml hv
  obtain ⟨rfl, hsz, hP, hK, hD0⟩ := hv
  have hx := B.exec
  have hb := B.bytes
  have hrt := B.returns
  have hts := atoms_spec (ws := vmX12_hasForm) B.pre
  have hown : s.vm.findClass RX12 = some m.cls := findClass_of_methodNamed B.named
  subst hsz
  have hD := hD0.self (sz := s.heap.size)
  generalize hAe : va_A (mW h0 kB kI kZ q g F) s.heap.size = A at hD ⊢
  have hA : ∀ q : Nat, s.heap.size ≤ q → A q := fun q h => by rw [← hAe]; exact Or.inr h
  have hS : va_S A s.heap s.heap [] := va_S.rf
  have hl := lv_entry ([.ref h0, .int p0, .int p1, .ref (q 57), .int p3, .int p4]) (n := 7) (Nat.le_of_ble_eq_true rfl)
  rw [lg_entry_eq]
  generalize (lg_sl ([.ref h0, .int p0, .int p1, .ref (q 57), .int p3, .int p4]) ++ List.replicate (7 - (lg_sl ([.ref h0, .int p0, .int p1, .ref (q 57), .int p3, .int p4])).length) Slot.unset).toArray = ls at hl ⊢
  exact bm_hasForm_57 p0 p1 p3 p4 r hr hx hb hml hown hts hA hK hP hD hS hl (fun pc ls rz H locs he hz hd hP hD hS => by cases he; exact W.zret (v := r) hx hb hrt (z_nb hz) (fun t ht hW => ⟨⟨r, (), rfl, rfl, by rw [ht]; exact hP, va_K.moved hW.alike hK, hD⟩, hS.F ht⟩) hS.2.2 hd)
set_option maxHeartbeats 4000000 in
set_option maxRecDepth 100000 in
theorem bm_back {p : Program} {l : Launch} {e : Env} {s : State} {m : MethodId} {args : Array Value} {below : List Frame} {meth : Method} {c : Code} {Q : State → Prop} {A : Nat → Prop} {dC : Nat → ClassId} {dI : Nat → Nat → Nat} {h0 : Nat} {kB kI kZ : ClassId} {q : Nat → Nat} {g : Nat → Int32} {F : Nat → Nat → Int32} {H : Heap} {locs : List Loc} {ls : Array Slot} (p0 : Int32) (r : Int32) (c_g1 : Int32) (c_g23 : Int32) (c_g27 : Int32) (c_g30 : Int32) (c_g34 : Int32) (c_g36 : Int32) (c_g39 : Int32) (c_g51 : Int32) (c_g56 : Int32) (c_F22 : (Nat → Int32)) (c_F24 : (Nat → Int32)) (c_F25 : (Nat → Int32)) (c_F26 : (Nat → Int32)) (c_F28 : (Nat → Int32)) (c_F29 : (Nat → Int32)) (c_F31 : (Nat → Int32)) (c_F32 : (Nat → Int32)) (c_F33 : (Nat → Int32)) (c_F37 : (Nat → Int32)) (c_F38 : (Nat → Int32)) (c_F40 : (Nat → Int32)) (c_F41 : (Nat → Int32)) (c_F52 : (Nat → Int32)) (c_F53 : (Nat → Int32)) (c_F54 : (Nat → Int32)) (c_F55 : (Nat → Int32)) (c_F57 : (Nat → Int32)) (hr : f_back g F p0 = some (r, c_g1, c_g23, c_g27, c_g30, c_g34, c_g36, c_g39, c_g51, c_g56, c_F22, c_F24, c_F25, c_F26, c_F28, c_F29, c_F31, c_F32, c_F33, c_F37, c_F38, c_F40, c_F41, c_F52, c_F53, c_F54, c_F55, c_F57)) (hx : p.tables.exec = Jvm.exec) (hb : c.code = cX12_back) (hml : c.maxLocals = 4) (hown : s.vm.findClass RX12 = some m.cls) (hts : ∀ w ∈ vmX12_back, w.before args s = true) (hA : ∀ q : Nat, s.heap.size ≤ q → A q) (hK : va_K (dC, dI) vwCl (mT kB kI kZ) s) (hP : va_P (dC, dI) vwCl (mW h0 kB kI kZ q g F) H) (hD : va_D A (mW h0 kB kI kZ q g F)) (hS : va_S A s.heap H locs) (hl : lv_has ls 4 [(0, .ref h0), (1, .int p0)])
    (K : ∀ (pc : Nat) (ls : Array Slot) (rz : Int32) (c_g1z : Int32) (c_g23z : Int32) (c_g27z : Int32) (c_g30z : Int32) (c_g34z : Int32) (c_g36z : Int32) (c_g39z : Int32) (c_g51z : Int32) (c_g56z : Int32) (c_F22z : (Nat → Int32)) (c_F24z : (Nat → Int32)) (c_F25z : (Nat → Int32)) (c_F26z : (Nat → Int32)) (c_F28z : (Nat → Int32)) (c_F29z : (Nat → Int32)) (c_F31z : (Nat → Int32)) (c_F32z : (Nat → Int32)) (c_F33z : (Nat → Int32)) (c_F37z : (Nat → Int32)) (c_F38z : (Nat → Int32)) (c_F40z : (Nat → Int32)) (c_F41z : (Nat → Int32)) (c_F52z : (Nat → Int32)) (c_F53z : (Nat → Int32)) (c_F54z : (Nat → Int32)) (c_F55z : (Nat → Int32)) (c_F57z : (Nat → Int32)) (H : Heap) (locs : List Loc), some (rz, c_g1z, c_g23z, c_g27z, c_g30z, c_g34z, c_g36z, c_g39z, c_g51z, c_g56z, c_F22z, c_F24z, c_F25z, c_F26z, c_F28z, c_F29z, c_F31z, c_F32z, c_F33z, c_F37z, c_F38z, c_F40z, c_F41z, c_F52z, c_F53z, c_F54z, c_F55z, c_F57z) = some (r, c_g1, c_g23, c_g27, c_g30, c_g34, c_g36, c_g39, c_g51, c_g56, c_F22, c_F24, c_F25, c_F26, c_F28, c_F29, c_F31, c_F32, c_F33, c_F37, c_F38, c_F40, c_F41, c_F52, c_F53, c_F54, c_F55, c_F57) → decode cX12_back pc = .ok (.ireturn, 1) → va_P (dC, dI) vwCl (mW h0 kB kI kZ q (upd (upd (upd (upd (upd (upd (upd (upd (upd g 1 c_g1z) 23 c_g23z) 27 c_g27z) 30 c_g30z) 34 c_g34z) 36 c_g36z) 39 c_g39z) 51 c_g51z) 56 c_g56z) (upF (upF (upF (upF (upF (upF (upF (upF (upF (upF (upF (upF (upF (upF (upF (upF (upF (upF F 22 c_F22z) 24 c_F24z) 25 c_F25z) 26 c_F26z) 28 c_F28z) 29 c_F29z) 31 c_F31z) 32 c_F32z) 33 c_F33z) 37 c_F37z) 38 c_F38z) 40 c_F40z) 41 c_F41z) 52 c_F52z) 53 c_F53z) 54 c_F54z) 55 c_F55z) 57 c_F57z)) H → va_D A (mW h0 kB kI kZ q (upd (upd (upd (upd (upd (upd (upd (upd (upd g 1 c_g1z) 23 c_g23z) 27 c_g27z) 30 c_g30z) 34 c_g34z) 36 c_g36z) 39 c_g39z) 51 c_g51z) 56 c_g56z) (upF (upF (upF (upF (upF (upF (upF (upF (upF (upF (upF (upF (upF (upF (upF (upF (upF (upF F 22 c_F22z) 24 c_F24z) 25 c_F25z) 26 c_F26z) 28 c_F28z) 29 c_F29z) 31 c_F31z) 32 c_F32z) 33 c_F33z) 37 c_F37z) 38 c_F38z) 40 c_F40z) 41 c_F41z) 52 c_F52z) 53 c_F53z) 54 c_F54z) 55 c_F55z) 57 c_F57z)) → va_S A s.heap H locs → W p l e ({ frames := 48, cells := 0, slots := 0, locals := 1171 } : Room) s m args below meth c H locs 0 0 Q (F0 m pc ls [.int rz])) : W p l e ({ frames := 48, cells := 0, slots := 0, locals := 1171 } : Room) s m args below meth c H locs 0 0 Q (F0 m 0 ls []) := by
  unfold f_back at hr
  refine lv_aload_n hx hb dX12_back_0 rfl (lv_at hl 0 rfl) ?_
  replace hr := b4S hr
  obtain ⟨r1z, c1_g1, c1_g23, c1_F22, hc1, hr⟩ := hr
  have hFc := fr_all hD hS hA
  refine va_calli (va_runV (As := []) (rest := []) ⟨hx, hb, hml, hown, hts⟩ (m_readWord l dC dI H.size h0 kB kI kZ q g F r1z c1_g1 c1_g23 c1_F22 hc1) (cwV 0 hts gw_X12_readWord_297 rfl rfl rfl (by decide +kernel) ⟨Nat.le_of_ble_eq_true rfl, Nat.le_of_ble_eq_true rfl⟩) ⟨fun a U g mk q => by obtain ⟨q0, q1, qP, qK, qD⟩ := q; exact ⟨q0, q1, qP, va_K.moved (u := U) (U := U.calling g mk a) (Vm.Alike.refl U.vm) qK, qD⟩, va_recv hK hP (ci := 12) (q0 := 0) rfl rfl, fun U hU hW => ⟨rfl, by rw [hU], by rw [hU]; exact hP, va_K.moved hW.alike hK, hD.weaken (fun _ _ _ _ => trivial)⟩⟩ rfl rfl hl.1 rfl (lv_room (Nat.le_of_ble_eq_true rfl)) dX12_back_1 ⟨Nat.le_of_ble_eq_true rfl, Nat.le_of_ble_eq_true rfl⟩) hS (fun q _ h => hFc q h) hFc (fun r1 u t H1 locs ht hvm hw hB hz1 hk1 hS => ?_)
  replace hw : r1 = r1z := hw
  subst hw
  obtain ⟨hP1, hK1, hD1⟩ := hB
  rw [ht] at hP1
  obtain ⟨hP, hD⟩ := jn_all (w1 := (mW h0 kB kI kZ q (upd (upd g 1 c1_g1) 23 c1_g23) (upF F 22 c1_F22))) hFc hP1 hD1
  clear hFc hP1 hK1 hD1 hk1 hz1 ht hvm
  generalize H1 = H at hP hS ⊢
  have hP : va_P (dC, dI) vwCl (mW h0 kB kI kZ q (upd (upd g 1 c1_g1) 23 c1_g23) (upF F 22 c1_F22)) H := hP
  have hD : va_D A (mW h0 kB kI kZ q (upd (upd g 1 c1_g1) 23 c1_g23) (upF F 22 c1_F22)) := hD
  replace hr := jnS hr
  obtain ⟨j15, hj15, hr⟩ := hr
  have Jj15 : ∀ (H : Heap) (locs : List Loc) (ls : Array Slot), j15 () = some (r, c_g1, c_g23, c_g27, c_g30, c_g34, c_g36, c_g39, c_g51, c_g56, c_F22, c_F24, c_F25, c_F26, c_F28, c_F29, c_F31, c_F32, c_F33, c_F37, c_F38, c_F40, c_F41, c_F52, c_F53, c_F54, c_F55, c_F57) → va_P (dC, dI) vwCl (mW h0 kB kI kZ q (upd (upd g 1 c1_g1) 23 c1_g23) (upF F 22 c1_F22)) H → va_D A (mW h0 kB kI kZ q (upd (upd g 1 c1_g1) 23 c1_g23) (upF F 22 c1_F22)) → va_S A s.heap H locs → lv_has ls 4 [] → W p l e ({ frames := 48, cells := 0, slots := 0, locals := 1171 } : Room) s m args below meth c H locs 0 0 Q (F0 m 15 ls []) := by
    intro H locs ls hr hP hD hS hl
    rw [hj15] at hr
    refine lv_bipush (v := (-2)) hx hb dX12_back_15 (by decide +kernel) ?_
    first | exact K 17 ls _ _ _ _ _ _ _ _ _ _ _ _ _ _ _ _ _ _ _ _ _ _ _ _ _ _ _ _ H _ hr dX12_back_17 (sP_eq (mW_cg (by repeat (first | with_reducible rfl | with_reducible refine upd_cg ?_ | refine Eq.trans ?_ (upd_id rfl))) (by repeat (first | with_reducible rfl | with_reducible refine upF_cg ?_ | refine Eq.trans ?_ (upF_id rfl)))) hP) (sD_eq (mW_cg (by repeat (first | with_reducible rfl | with_reducible refine upd_cg ?_ | refine Eq.trans ?_ (upd_id rfl))) (by repeat (first | with_reducible rfl | with_reducible refine upF_cg ?_ | refine Eq.trans ?_ (upF_id rfl)))) hD) hS | exact K 17 ls _ _ _ _ _ _ _ _ _ _ _ _ _ _ _ _ _ _ _ _ _ _ _ _ _ _ _ _ H _ hr dX12_back_17 hP hD hS
  refine lv_if_eq (tgt := 15) hx hb dX12_back_4 (by decide) (fun c4 => ?_) (fun c4 => ?_)
  · replace hr := iteT c4 hr
    exact Jj15 H _ ls hr hP hD hS (lv_sub hl [] rfl)
  · replace hr := iteF c4 hr
    refine lv_aload_n hx hb dX12_back_7 rfl (lv_at hl 0 rfl) ?_
    refine lv_iload_n hx hb dX12_back_8 rfl (lv_at hl 1 rfl) ?_
    replace hr := b1S hr
    obtain ⟨r9z, hc9, hr⟩ := hr
    have hFc := fr_all hD hS hA
    refine va_calli (va_runV (As := [.int p0]) (rest := []) ⟨hx, hb, hml, hown, hts⟩ (m_isStage l dC dI H.size h0 kB kI kZ q (upd (upd g 1 c1_g1) 23 c1_g23) (upF F 22 c1_F22) p0 r9z hc9) (cwV 1 hts gw_X12_isStage_300 rfl rfl rfl (by decide +kernel) ⟨Nat.le_of_ble_eq_true rfl, Nat.le_of_ble_eq_true rfl⟩) ⟨fun a U g mk q => by obtain ⟨q0, q1, qP, qK, qD⟩ := q; exact ⟨q0, q1, qP, va_K.moved (u := U) (U := U.calling g mk a) (Vm.Alike.refl U.vm) qK, qD⟩, va_recv hK hP (ci := 12) (q0 := 0) rfl rfl, fun U hU hW => ⟨rfl, by rw [hU], by rw [hU]; exact hP, va_K.moved hW.alike hK, hD.weaken (fun _ _ _ _ => trivial)⟩⟩ rfl rfl hl.1 rfl (lv_room (Nat.le_of_ble_eq_true rfl)) dX12_back_9 ⟨Nat.le_of_ble_eq_true rfl, Nat.le_of_ble_eq_true rfl⟩) hS (fun q _ h => hFc q h) hFc (fun r9 u t H1 locs ht hvm hw hB hz1 hk1 hS => ?_)
    replace hw : r9 = r9z := hw
    subst hw
    obtain ⟨hP1, hK1, hD1⟩ := hB
    rw [ht] at hP1
    obtain ⟨hP, hD⟩ := jn_all (w1 := (mW h0 kB kI kZ q (upd (upd g 1 c1_g1) 23 c1_g23) (upF F 22 c1_F22))) hFc hP1 hD1
    clear hFc hP1 hK1 hD1 hk1 hz1 ht hvm
    generalize H1 = H at hP hS ⊢
    have hP : va_P (dC, dI) vwCl (mW h0 kB kI kZ q (upd (upd g 1 c1_g1) 23 c1_g23) (upF F 22 c1_F22)) H := hP
    have hD : va_D A (mW h0 kB kI kZ q (upd (upd g 1 c1_g1) 23 c1_g23) (upF F 22 c1_F22)) := hD
    refine lv_if_ne (tgt := 18) hx hb dX12_back_12 (by decide) (fun c12 => ?_) (fun c12 => ?_)
    · replace hr := iteF c12 hr
      refine lv_aload_n hx hb dX12_back_18 rfl (lv_at hl 0 rfl) ?_
      refine va_get (D := (dC, dI)) (ci := 12) (v := .int c1_g23) (C := RX12) (T := TX12) (N := 71) hx hb hts inX12 hown hK hP 0 rfl rfl 23 (by decide) (hts (.fieldLink RX12 244 "SpellTurnerModel" "letters" "I") im_49) (fun _ h9 => h9) rfl dX12_back_19 ?_
      refine lv_istore_n (lv' := [(2, .int c1_g23), (0, .ref h0), (1, .int p0)]) hx hb dX12_back_22 rfl hl (by decide) rfl (fun ls hl => ?_)
      refine lv_iconst (v := 0) hx hb dX12_back_23 (by decide +kernel) ?_
      refine lv_istore_n (lv' := [(3, .int 0), (2, .int c1_g23), (0, .ref h0), (1, .int p0)]) hx hb dX12_back_24 rfl hl (by decide) rfl (fun ls hl => ?_)
      replace hr := jnS hr
      obtain ⟨k48, hk48, hr⟩ := hr
      have Jk48 : ∀ (c48_F57 : (Nat → Int32)) (H : Heap) (locs : List Loc) (ls : Array Slot), k48 c48_F57 = some (r, c_g1, c_g23, c_g27, c_g30, c_g34, c_g36, c_g39, c_g51, c_g56, c_F22, c_F24, c_F25, c_F26, c_F28, c_F29, c_F31, c_F32, c_F33, c_F37, c_F38, c_F40, c_F41, c_F52, c_F53, c_F54, c_F55, c_F57) → va_P (dC, dI) vwCl (mW h0 kB kI kZ q (upd (upd g 1 c1_g1) 23 c1_g23) (upF (upF F 22 c1_F22) 57 c48_F57)) H → va_D A (mW h0 kB kI kZ q (upd (upd g 1 c1_g1) 23 c1_g23) (upF (upF F 22 c1_F22) 57 c48_F57)) → va_S A s.heap H locs → lv_has ls 4 [(0, .ref h0), (1, .int p0), (2, .int c1_g23)] → W p l e ({ frames := 48, cells := 0, slots := 0, locals := 1171 } : Room) s m args below meth c H locs 0 0 Q (F0 m 48 ls []) := by
        intro c48_F57 H locs ls hr hP hD hS hl
        rw [hk48] at hr
        refine lv_aload_n hx hb dX12_back_48 rfl (lv_at hl 0 rfl) ?_
        replace hr := b23S hr
        obtain ⟨c49_g23, c49_g27, c49_g30, c49_g34, c49_g36, c49_g39, c49_g51, c49_F22, c49_F24, c49_F25, c49_F26, c49_F28, c49_F29, c49_F31, c49_F32, c49_F33, c49_F37, c49_F38, c49_F40, c49_F41, c49_F52, c49_F53, c49_F54, hc49, hr⟩ := hr
        have hFc := fr_all hD hS hA
        refine va_callv (va_runV (As := []) (rest := []) ⟨hx, hb, hml, hown, hts⟩ (m_make l dC dI H.size h0 kB kI kZ q (upd (upd g 1 c1_g1) 23 c1_g23) (upF (upF F 22 c1_F22) 57 c48_F57) c49_g23 c49_g27 c49_g30 c49_g34 c49_g36 c49_g39 c49_g51 c49_F22 c49_F24 c49_F25 c49_F26 c49_F28 c49_F29 c49_F31 c49_F32 c49_F33 c49_F37 c49_F38 c49_F40 c49_F41 c49_F52 c49_F53 c49_F54 hc49) (cwV 0 hts gw_X12_make_315 rfl rfl rfl (by decide +kernel) ⟨Nat.le_of_ble_eq_true rfl, Nat.le_of_ble_eq_true rfl⟩) ⟨fun a U g mk q => by obtain ⟨q0, q1, qP, qK, qD⟩ := q; exact ⟨q0, q1, qP, va_K.moved (u := U) (U := U.calling g mk a) (Vm.Alike.refl U.vm) qK, qD⟩, va_recv hK hP (ci := 12) (q0 := 0) rfl rfl, fun U hU hW => ⟨rfl, by rw [hU], by rw [hU]; exact hP, va_K.moved hW.alike hK, hD.weaken (fun _ _ _ _ => trivial)⟩⟩ rfl rfl hl.1 rfl (lv_room (Nat.le_of_ble_eq_true rfl)) dX12_back_49 ⟨Nat.le_of_ble_eq_true rfl, Nat.le_of_ble_eq_true rfl⟩) hS (fun q _ h => hFc q h) hFc (fun u t H1 locs ht hvm hw hB hz1 hk1 hS => ?_)
        obtain ⟨hP1, hK1, hD1⟩ := hB
        rw [ht] at hP1
        obtain ⟨hP, hD⟩ := jn_all (w1 := (mW h0 kB kI kZ q (upd (upd (upd (upd (upd (upd (upd (upd g 1 c1_g1) 23 c49_g23) 27 c49_g27) 30 c49_g30) 34 c49_g34) 36 c49_g36) 39 c49_g39) 51 c49_g51) (upF (upF (upF (upF (upF (upF (upF (upF (upF (upF (upF (upF (upF (upF (upF (upF (upF F 22 c49_F22) 24 c49_F24) 25 c49_F25) 26 c49_F26) 28 c49_F28) 29 c49_F29) 31 c49_F31) 32 c49_F32) 33 c49_F33) 37 c49_F37) 38 c49_F38) 40 c49_F40) 41 c49_F41) 52 c49_F52) 53 c49_F53) 54 c49_F54) 57 c48_F57))) hFc hP1 hD1
        clear hFc hP1 hK1 hD1 hk1 hz1 ht hvm
        generalize H1 = H at hP hS ⊢
        have hP : va_P (dC, dI) vwCl (mW h0 kB kI kZ q (upd (upd (upd (upd (upd (upd (upd (upd g 1 c1_g1) 23 c49_g23) 27 c49_g27) 30 c49_g30) 34 c49_g34) 36 c49_g36) 39 c49_g39) 51 c49_g51) (upF (upF (upF (upF (upF (upF (upF (upF (upF (upF (upF (upF (upF (upF (upF (upF (upF F 22 c49_F22) 24 c49_F24) 25 c49_F25) 26 c49_F26) 28 c49_F28) 29 c49_F29) 31 c49_F31) 32 c49_F32) 33 c49_F33) 37 c49_F37) 38 c49_F38) 40 c49_F40) 41 c49_F41) 52 c49_F52) 53 c49_F53) 54 c49_F54) 57 c48_F57)) H := hP
        have hD : va_D A (mW h0 kB kI kZ q (upd (upd (upd (upd (upd (upd (upd (upd g 1 c1_g1) 23 c49_g23) 27 c49_g27) 30 c49_g30) 34 c49_g34) 36 c49_g36) 39 c49_g39) 51 c49_g51) (upF (upF (upF (upF (upF (upF (upF (upF (upF (upF (upF (upF (upF (upF (upF (upF (upF F 22 c49_F22) 24 c49_F24) 25 c49_F25) 26 c49_F26) 28 c49_F28) 29 c49_F29) 31 c49_F31) 32 c49_F32) 33 c49_F33) 37 c49_F37) 38 c49_F38) 40 c49_F40) 41 c49_F41) 52 c49_F52) 53 c49_F53) 54 c49_F54) 57 c48_F57)) := hD
        refine lv_aload_n hx hb dX12_back_52 rfl (lv_at hl 0 rfl) ?_
        refine lv_iconst (v := 0) hx hb dX12_back_53 (by decide +kernel) ?_
        refine va_put (D := (dC, dI)) (ci := 12) (v := .int 0) (ty := .int) (C := RX12) (T := TX12) (N := 71) hx hb hts inX12 tyX12 tyX12_ok nmX12 hown hK hP hD hS 0 rfl rfl 56 (by decide) (hts (.fieldLink RX12 318 "SpellTurnerModel" "oldMany" "I") im_89) (fun _ h9 => h9) rfl (by decide +kernel) rfl rfl (Nat.le_of_ble_eq_true rfl) dX12_back_54 (fun H locs hP hD hS => ?_)
        have hP : va_P (dC, dI) vwCl (mW h0 kB kI kZ q (upd (upd (upd (upd (upd (upd (upd (upd (upd g 1 c1_g1) 23 c49_g23) 27 c49_g27) 30 c49_g30) 34 c49_g34) 36 c49_g36) 39 c49_g39) 51 c49_g51) 56 0) (upF (upF (upF (upF (upF (upF (upF (upF (upF (upF (upF (upF (upF (upF (upF (upF (upF F 22 c49_F22) 24 c49_F24) 25 c49_F25) 26 c49_F26) 28 c49_F28) 29 c49_F29) 31 c49_F31) 32 c49_F32) 33 c49_F33) 37 c49_F37) 38 c49_F38) 40 c49_F40) 41 c49_F41) 52 c49_F52) 53 c49_F53) 54 c49_F54) 57 c48_F57)) H := by first | exact sP_g56 hP rfl | exact sP_g56 hP upd_same | exact hP
        have hD : va_D A (mW h0 kB kI kZ q (upd (upd (upd (upd (upd (upd (upd (upd (upd g 1 c1_g1) 23 c49_g23) 27 c49_g27) 30 c49_g30) 34 c49_g34) 36 c49_g36) 39 c49_g39) 51 c49_g51) 56 0) (upF (upF (upF (upF (upF (upF (upF (upF (upF (upF (upF (upF (upF (upF (upF (upF (upF F 22 c49_F22) 24 c49_F24) 25 c49_F25) 26 c49_F26) 28 c49_F28) 29 c49_F29) 31 c49_F31) 32 c49_F32) 33 c49_F33) 37 c49_F37) 38 c49_F38) 40 c49_F40) 41 c49_F41) 52 c49_F52) 53 c49_F53) 54 c49_F54) 57 c48_F57)) := by first | exact sD_g56 hD rfl | exact sD_g56 hD upd_same | exact hD
        refine lv_iconst (v := 0) hx hb dX12_back_57 (by decide +kernel) ?_
        refine lv_istore_n (lv' := [(3, .int 0), (0, .ref h0), (1, .int p0), (2, .int c1_g23)]) hx hb dX12_back_58 rfl hl (by decide) rfl (fun ls hl => ?_)
        have lp59 : ∀ (n59 : Nat) (y59_3 : Int32) (d59_g56 : Int32) (d59_F55 : (Nat → Int32)) (H : Heap) (locs : List Loc) (ls : Array Slot), L_back_59 g F p0 c1_g1 c1_g23 c48_F57 c49_g23 c49_g27 c49_g30 c49_g34 c49_g36 c49_g39 c49_g51 c49_F22 c49_F24 c49_F25 c49_F26 c49_F28 c49_F29 c49_F31 c49_F32 c49_F33 c49_F37 c49_F38 c49_F40 c49_F41 c49_F52 c49_F53 c49_F54 n59 y59_3 d59_g56 d59_F55 = some (r, c_g1, c_g23, c_g27, c_g30, c_g34, c_g36, c_g39, c_g51, c_g56, c_F22, c_F24, c_F25, c_F26, c_F28, c_F29, c_F31, c_F32, c_F33, c_F37, c_F38, c_F40, c_F41, c_F52, c_F53, c_F54, c_F55, c_F57) → va_P (dC, dI) vwCl (mW h0 kB kI kZ q (upd (upd (upd (upd (upd (upd (upd (upd (upd g 1 c1_g1) 23 c49_g23) 27 c49_g27) 30 c49_g30) 34 c49_g34) 36 c49_g36) 39 c49_g39) 51 c49_g51) 56 d59_g56) (upF (upF (upF (upF (upF (upF (upF (upF (upF (upF (upF (upF (upF (upF (upF (upF (upF (upF F 22 c49_F22) 24 c49_F24) 25 c49_F25) 26 c49_F26) 28 c49_F28) 29 c49_F29) 31 c49_F31) 32 c49_F32) 33 c49_F33) 37 c49_F37) 38 c49_F38) 40 c49_F40) 41 c49_F41) 52 c49_F52) 53 c49_F53) 54 c49_F54) 55 d59_F55) 57 c48_F57)) H → va_D A (mW h0 kB kI kZ q (upd (upd (upd (upd (upd (upd (upd (upd (upd g 1 c1_g1) 23 c49_g23) 27 c49_g27) 30 c49_g30) 34 c49_g34) 36 c49_g36) 39 c49_g39) 51 c49_g51) 56 d59_g56) (upF (upF (upF (upF (upF (upF (upF (upF (upF (upF (upF (upF (upF (upF (upF (upF (upF (upF F 22 c49_F22) 24 c49_F24) 25 c49_F25) 26 c49_F26) 28 c49_F28) 29 c49_F29) 31 c49_F31) 32 c49_F32) 33 c49_F33) 37 c49_F37) 38 c49_F38) 40 c49_F40) 41 c49_F41) 52 c49_F52) 53 c49_F53) 54 c49_F54) 55 d59_F55) 57 c48_F57)) → va_S A s.heap H locs → lv_has ls 4 [(0, .ref h0), (1, .int p0), (2, .int c1_g23), (3, .int y59_3)] → W p l e ({ frames := 48, cells := 0, slots := 0, locals := 1171 } : Room) s m args below meth c H locs 0 0 Q (F0 m 59 ls []) := by
          intro n59
          induction n59 with
          | zero => intro y59_3 d59_g56 d59_F55 H locs ls hr; exact nomatch (show none = some (r, c_g1, c_g23, c_g27, c_g30, c_g34, c_g36, c_g39, c_g51, c_g56, c_F22, c_F24, c_F25, c_F26, c_F28, c_F29, c_F31, c_F32, c_F33, c_F37, c_F38, c_F40, c_F41, c_F52, c_F53, c_F54, c_F55, c_F57) from hr)
          | succ n59 ih59 =>
            intro y59_3 d59_g56 d59_F55 H locs ls hr hP hD hS hl
            replace hr : B_back_59 g F p0 c1_g1 c1_g23 c48_F57 c49_g23 c49_g27 c49_g30 c49_g34 c49_g36 c49_g39 c49_g51 c49_F22 c49_F24 c49_F25 c49_F26 c49_F28 c49_F29 c49_F31 c49_F32 c49_F33 c49_F37 c49_F38 c49_F40 c49_F41 c49_F52 c49_F53 c49_F54 (L_back_59 g F p0 c1_g1 c1_g23 c48_F57 c49_g23 c49_g27 c49_g30 c49_g34 c49_g36 c49_g39 c49_g51 c49_F22 c49_F24 c49_F25 c49_F26 c49_F28 c49_F29 c49_F31 c49_F32 c49_F33 c49_F37 c49_F38 c49_F40 c49_F41 c49_F52 c49_F53 c49_F54 n59) y59_3 d59_g56 d59_F55 = some (r, c_g1, c_g23, c_g27, c_g30, c_g34, c_g36, c_g39, c_g51, c_g56, c_F22, c_F24, c_F25, c_F26, c_F28, c_F29, c_F31, c_F32, c_F33, c_F37, c_F38, c_F40, c_F41, c_F52, c_F53, c_F54, c_F55, c_F57) := hr
            unfold B_back_59 at hr
            refine lv_iload_n hx hb dX12_back_59 rfl (lv_at hl 3 rfl) ?_
            refine lv_aload_n hx hb dX12_back_60 rfl (lv_at hl 0 rfl) ?_
            refine va_get (D := (dC, dI)) (ci := 12) (v := .int (g 48)) (C := RX12) (T := TX12) (N := 71) hx hb hts inX12 hown hK hP 0 rfl rfl 48 (by decide) (hts (.fieldLink RX12 312 "SpellTurnerModel" "words" "I") im_85) (fun _ h9 => h9) rfl dX12_back_61 ?_
            refine lv_icmp_ge (tgt := 111) hx hb dX12_back_64 (by decide) (fun c64 => ?_) (fun c64 => ?_)
            · replace hr := iteT c64 hr
              refine lv_aload_n hx hb dX12_back_111 rfl (lv_at hl 0 rfl) ?_
              refine va_get (D := (dC, dI)) (ci := 12) (v := .int d59_g56) (C := RX12) (T := TX12) (N := 71) hx hb hts inX12 hown hK hP 0 rfl rfl 56 (by decide) (hts (.fieldLink RX12 318 "SpellTurnerModel" "oldMany" "I") im_89) (fun _ h9 => h9) rfl dX12_back_112 ?_
              first | exact K 115 ls _ _ _ _ _ _ _ _ _ _ _ _ _ _ _ _ _ _ _ _ _ _ _ _ _ _ _ _ H _ hr dX12_back_115 (sP_eq (mW_cg (by repeat (first | with_reducible rfl | with_reducible refine upd_cg ?_ | refine Eq.trans ?_ (upd_id rfl))) (by repeat (first | with_reducible rfl | with_reducible refine upF_cg ?_ | refine Eq.trans ?_ (upF_id rfl)))) hP) (sD_eq (mW_cg (by repeat (first | with_reducible rfl | with_reducible refine upd_cg ?_ | refine Eq.trans ?_ (upd_id rfl))) (by repeat (first | with_reducible rfl | with_reducible refine upF_cg ?_ | refine Eq.trans ?_ (upF_id rfl)))) hD) hS | exact K 115 ls _ _ _ _ _ _ _ _ _ _ _ _ _ _ _ _ _ _ _ _ _ _ _ _ _ _ _ _ H _ hr dX12_back_115 hP hD hS
            · replace hr := iteF c64 hr
              refine lv_aload_n hx hb dX12_back_67 rfl (lv_at hl 0 rfl) ?_
              refine lv_iload_n hx hb dX12_back_68 rfl (lv_at hl 3 rfl) ?_
              refine lv_iload_n hx hb dX12_back_69 rfl (lv_at hl 1 rfl) ?_
              refine lv_aload_n hx hb dX12_back_70 rfl (lv_at hl 0 rfl) ?_
              refine va_get (D := (dC, dI)) (ci := 12) (v := .ref (q 57)) (C := RX12) (T := TX12) (N := 71) hx hb hts inX12 hown hK hP 0 rfl rfl 57 (by decide) (hts (.fieldLink RX12 125 "SpellTurnerModel" "asked" "[B") im_196) (fun _ h9 => h9) rfl dX12_back_71 ?_
              refine lv_iconst (v := 0) hx hb dX12_back_74 (by decide +kernel) ?_
              refine lv_iload_n hx hb dX12_back_75 rfl (lv_at hl 2 rfl) ?_
              replace hr := b1S hr
              obtain ⟨r76z, hc76, hr⟩ := hr
              have hFc := fr_all hD hS hA
              refine va_calli (va_runV (As := [.int y59_3, .int p0, .ref (q 57), .int 0, .int c1_g23]) (rest := []) ⟨hx, hb, hml, hown, hts⟩ (m_hasForm_57 l dC dI H.size h0 kB kI kZ q (upd (upd (upd (upd (upd (upd (upd (upd (upd g 1 c1_g1) 23 c49_g23) 27 c49_g27) 30 c49_g30) 34 c49_g34) 36 c49_g36) 39 c49_g39) 51 c49_g51) 56 d59_g56) (upF (upF (upF (upF (upF (upF (upF (upF (upF (upF (upF (upF (upF (upF (upF (upF (upF (upF F 22 c49_F22) 24 c49_F24) 25 c49_F25) 26 c49_F26) 28 c49_F28) 29 c49_F29) 31 c49_F31) 32 c49_F32) 33 c49_F33) 37 c49_F37) 38 c49_F38) 40 c49_F40) 41 c49_F41) 52 c49_F52) 53 c49_F53) 54 c49_F54) 55 d59_F55) 57 c48_F57) y59_3 p0 0 c1_g23 r76z hc76) (cwV 5 hts gw_X12_hasForm_321 rfl rfl rfl (by decide +kernel) ⟨Nat.le_of_ble_eq_true rfl, Nat.le_of_ble_eq_true rfl⟩) ⟨fun a U g mk q => by obtain ⟨q0, q1, qP, qK, qD⟩ := q; exact ⟨q0, q1, qP, va_K.moved (u := U) (U := U.calling g mk a) (Vm.Alike.refl U.vm) qK, qD⟩, va_recv hK hP (ci := 12) (q0 := 0) rfl rfl, fun U hU hW => ⟨rfl, by rw [hU], by rw [hU]; exact hP, va_K.moved hW.alike hK, hD.weaken (fun _ _ _ _ => trivial)⟩⟩ rfl rfl hl.1 rfl (lv_room (Nat.le_of_ble_eq_true rfl)) dX12_back_76 ⟨Nat.le_of_ble_eq_true rfl, Nat.le_of_ble_eq_true rfl⟩) hS (fun q _ h => hFc q h) hFc (fun r76 u t H1 locs ht hvm hw hB hz1 hk1 hS => ?_)
              replace hw : r76 = r76z := hw
              subst hw
              obtain ⟨hP1, hK1, hD1⟩ := hB
              rw [ht] at hP1
              obtain ⟨hP, hD⟩ := jn_all (w1 := (mW h0 kB kI kZ q (upd (upd (upd (upd (upd (upd (upd (upd (upd g 1 c1_g1) 23 c49_g23) 27 c49_g27) 30 c49_g30) 34 c49_g34) 36 c49_g36) 39 c49_g39) 51 c49_g51) 56 d59_g56) (upF (upF (upF (upF (upF (upF (upF (upF (upF (upF (upF (upF (upF (upF (upF (upF (upF (upF F 22 c49_F22) 24 c49_F24) 25 c49_F25) 26 c49_F26) 28 c49_F28) 29 c49_F29) 31 c49_F31) 32 c49_F32) 33 c49_F33) 37 c49_F37) 38 c49_F38) 40 c49_F40) 41 c49_F41) 52 c49_F52) 53 c49_F53) 54 c49_F54) 55 d59_F55) 57 c48_F57))) hFc hP1 hD1
              clear hFc hP1 hK1 hD1 hk1 hz1 ht hvm
              generalize H1 = H at hP hS ⊢
              have hP : va_P (dC, dI) vwCl (mW h0 kB kI kZ q (upd (upd (upd (upd (upd (upd (upd (upd (upd g 1 c1_g1) 23 c49_g23) 27 c49_g27) 30 c49_g30) 34 c49_g34) 36 c49_g36) 39 c49_g39) 51 c49_g51) 56 d59_g56) (upF (upF (upF (upF (upF (upF (upF (upF (upF (upF (upF (upF (upF (upF (upF (upF (upF (upF F 22 c49_F22) 24 c49_F24) 25 c49_F25) 26 c49_F26) 28 c49_F28) 29 c49_F29) 31 c49_F31) 32 c49_F32) 33 c49_F33) 37 c49_F37) 38 c49_F38) 40 c49_F40) 41 c49_F41) 52 c49_F52) 53 c49_F53) 54 c49_F54) 55 d59_F55) 57 c48_F57)) H := hP
              have hD : va_D A (mW h0 kB kI kZ q (upd (upd (upd (upd (upd (upd (upd (upd (upd g 1 c1_g1) 23 c49_g23) 27 c49_g27) 30 c49_g30) 34 c49_g34) 36 c49_g36) 39 c49_g39) 51 c49_g51) 56 d59_g56) (upF (upF (upF (upF (upF (upF (upF (upF (upF (upF (upF (upF (upF (upF (upF (upF (upF (upF F 22 c49_F22) 24 c49_F24) 25 c49_F25) 26 c49_F26) 28 c49_F28) 29 c49_F29) 31 c49_F31) 32 c49_F32) 33 c49_F33) 37 c49_F37) 38 c49_F38) 40 c49_F40) 41 c49_F41) 52 c49_F52) 53 c49_F53) 54 c49_F54) 55 d59_F55) 57 c48_F57)) := hD
              replace hr := jnS hr
              obtain ⟨j105, hj105, hr⟩ := hr
              have Jj105 : ∀ (c105_g56 : Int32) (c105_F55 : (Nat → Int32)) (H : Heap) (locs : List Loc) (ls : Array Slot), j105 c105_g56 c105_F55 = some (r, c_g1, c_g23, c_g27, c_g30, c_g34, c_g36, c_g39, c_g51, c_g56, c_F22, c_F24, c_F25, c_F26, c_F28, c_F29, c_F31, c_F32, c_F33, c_F37, c_F38, c_F40, c_F41, c_F52, c_F53, c_F54, c_F55, c_F57) → va_P (dC, dI) vwCl (mW h0 kB kI kZ q (upd (upd (upd (upd (upd (upd (upd (upd (upd g 1 c1_g1) 23 c49_g23) 27 c49_g27) 30 c49_g30) 34 c49_g34) 36 c49_g36) 39 c49_g39) 51 c49_g51) 56 c105_g56) (upF (upF (upF (upF (upF (upF (upF (upF (upF (upF (upF (upF (upF (upF (upF (upF (upF (upF F 22 c49_F22) 24 c49_F24) 25 c49_F25) 26 c49_F26) 28 c49_F28) 29 c49_F29) 31 c49_F31) 32 c49_F32) 33 c49_F33) 37 c49_F37) 38 c49_F38) 40 c49_F40) 41 c49_F41) 52 c49_F52) 53 c49_F53) 54 c49_F54) 55 c105_F55) 57 c48_F57)) H → va_D A (mW h0 kB kI kZ q (upd (upd (upd (upd (upd (upd (upd (upd (upd g 1 c1_g1) 23 c49_g23) 27 c49_g27) 30 c49_g30) 34 c49_g34) 36 c49_g36) 39 c49_g39) 51 c49_g51) 56 c105_g56) (upF (upF (upF (upF (upF (upF (upF (upF (upF (upF (upF (upF (upF (upF (upF (upF (upF (upF F 22 c49_F22) 24 c49_F24) 25 c49_F25) 26 c49_F26) 28 c49_F28) 29 c49_F29) 31 c49_F31) 32 c49_F32) 33 c49_F33) 37 c49_F37) 38 c49_F38) 40 c49_F40) 41 c49_F41) 52 c49_F52) 53 c49_F53) 54 c49_F54) 55 c105_F55) 57 c48_F57)) → va_S A s.heap H locs → lv_has ls 4 [(0, .ref h0), (1, .int p0), (2, .int c1_g23), (3, .int y59_3)] → W p l e ({ frames := 48, cells := 0, slots := 0, locals := 1171 } : Room) s m args below meth c H locs 0 0 Q (F0 m 105 ls []) := by
                intro c105_g56 c105_F55 H locs ls hr hP hD hS hl
                rw [hj105] at hr
                refine lv_iinc (v := (y59_3 + 1)) (lv' := [(3, .int (y59_3 + 1)), (0, .ref h0), (1, .int p0), (2, .int c1_g23)]) hx hb dX12_back_105 hl (k := 3) rfl rfl (by decide) rfl (fun ls hl => ?_)
                refine lv_goto (tgt := 59) hx hb dX12_back_108 (by decide) ?_
                exact ih59 (y59_3 + 1) c105_g56 c105_F55 H _ ls hr hP hD hS (lv_sub hl [1, 2, 3, 0] rfl)
              refine lv_if_ne (tgt := 85) hx hb dX12_back_79 (by decide) (fun c79 => ?_) (fun c79 => ?_)
              · replace hr := iteF c79 hr
                refine lv_aload_n hx hb dX12_back_85 rfl (lv_at hl 0 rfl) ?_
                refine va_get (D := (dC, dI)) (ci := 12) (v := .ref (q 55)) (C := RX12) (T := TX12) (N := 71) hx hb hts inX12 hown hK hP 0 rfl rfl 55 (by decide) (hts (.fieldLink RX12 122 "SpellTurnerModel" "olds" "[I") im_90) (fun _ h9 => h9) rfl dX12_back_86 ?_
                refine lv_aload_n hx hb dX12_back_89 rfl (lv_at hl 0 rfl) ?_
                refine va_get (D := (dC, dI)) (ci := 12) (v := .int d59_g56) (C := RX12) (T := TX12) (N := 71) hx hb hts inX12 hown hK hP 0 rfl rfl 56 (by decide) (hts (.fieldLink RX12 318 "SpellTurnerModel" "oldMany" "I") im_89) (fun _ h9 => h9) rfl dX12_back_90 ?_
                refine lv_iload_n hx hb dX12_back_93 rfl (lv_at hl 3 rfl) ?_
                replace hr := iteS hr
                obtain ⟨hi94, hr⟩ := hr
                refine va_iast (f := d59_F55) hx hb hK hP hD hS 36 1 rfl rfl (inbV hi94) dX12_back_94 (fun H locs hP hD hS => ?_)
                obtain ⟨w94, ew94, hP, hD⟩ : ∃ w94 : Nat → Int32, w94 = (upd d59_F55 (Int32.toNatClampNeg d59_g56) y59_3) ∧ va_P (dC, dI) vwCl (mW h0 kB kI kZ q (upd (upd (upd (upd (upd (upd (upd (upd (upd g 1 c1_g1) 23 c49_g23) 27 c49_g27) 30 c49_g30) 34 c49_g34) 36 c49_g36) 39 c49_g39) 51 c49_g51) 56 d59_g56) (upF (upF (upF (upF (upF (upF (upF (upF (upF (upF (upF (upF (upF (upF (upF (upF (upF (upF F 22 c49_F22) 24 c49_F24) 25 c49_F25) 26 c49_F26) 28 c49_F28) 29 c49_F29) 31 c49_F31) 32 c49_F32) 33 c49_F33) 37 c49_F37) 38 c49_F38) 40 c49_F40) 41 c49_F41) 52 c49_F52) 53 c49_F53) 54 c49_F54) 55 w94) 57 c48_F57)) H ∧ va_D A (mW h0 kB kI kZ q (upd (upd (upd (upd (upd (upd (upd (upd (upd g 1 c1_g1) 23 c49_g23) 27 c49_g27) 30 c49_g30) 34 c49_g34) 36 c49_g36) 39 c49_g39) 51 c49_g51) 56 d59_g56) (upF (upF (upF (upF (upF (upF (upF (upF (upF (upF (upF (upF (upF (upF (upF (upF (upF (upF F 22 c49_F22) 24 c49_F24) 25 c49_F25) 26 c49_F26) 28 c49_F28) 29 c49_F29) 31 c49_F31) 32 c49_F32) 33 c49_F33) 37 c49_F37) 38 c49_F38) 40 c49_F40) 41 c49_F41) 52 c49_F52) 53 c49_F53) 54 c49_F54) 55 w94) 57 c48_F57)) := ⟨(upd d59_F55 (Int32.toNatClampNeg d59_g56) y59_3), rfl, by first | exact sP_F55 hP (upF_in (by decide) upF_same) | exact sP_F55 hP (upF_in (by decide) rfl) | exact hP, by first | exact sD_F55 hD (upF_in (by decide) upF_same) | exact sD_F55 hD (upF_in (by decide) rfl) | exact hD⟩
                replace hr := vlS hr w94 ew94
                clear ew94
                refine lv_aload_n hx hb dX12_back_95 rfl (lv_at hl 0 rfl) ?_
                refine lv_dup hx hb dX12_back_96 rfl ?_
                refine va_get (D := (dC, dI)) (ci := 12) (v := .int d59_g56) (C := RX12) (T := TX12) (N := 71) hx hb hts inX12 hown hK hP 0 rfl rfl 56 (by decide) (hts (.fieldLink RX12 318 "SpellTurnerModel" "oldMany" "I") im_89) (fun _ h9 => h9) rfl dX12_back_97 ?_
                refine lv_iconst (v := 1) hx hb dX12_back_100 (by decide +kernel) ?_
                refine lv_iadd hx hb dX12_back_101 ?_
                refine lv_topi (fun x102 ex102 => ?_)
                replace hr := vlS hr x102 ex102
                clear ex102
                refine va_put (D := (dC, dI)) (ci := 12) (v := .int x102) (ty := .int) (C := RX12) (T := TX12) (N := 71) hx hb hts inX12 tyX12 tyX12_ok nmX12 hown hK hP hD hS 0 rfl rfl 56 (by decide) (hts (.fieldLink RX12 318 "SpellTurnerModel" "oldMany" "I") im_89) (fun _ h9 => h9) rfl (by decide +kernel) rfl rfl (Nat.le_of_ble_eq_true rfl) dX12_back_102 (fun H locs hP hD hS => ?_)
                have hP : va_P (dC, dI) vwCl (mW h0 kB kI kZ q (upd (upd (upd (upd (upd (upd (upd (upd (upd g 1 c1_g1) 23 c49_g23) 27 c49_g27) 30 c49_g30) 34 c49_g34) 36 c49_g36) 39 c49_g39) 51 c49_g51) 56 x102) (upF (upF (upF (upF (upF (upF (upF (upF (upF (upF (upF (upF (upF (upF (upF (upF (upF (upF F 22 c49_F22) 24 c49_F24) 25 c49_F25) 26 c49_F26) 28 c49_F28) 29 c49_F29) 31 c49_F31) 32 c49_F32) 33 c49_F33) 37 c49_F37) 38 c49_F38) 40 c49_F40) 41 c49_F41) 52 c49_F52) 53 c49_F53) 54 c49_F54) 55 w94) 57 c48_F57)) H := by first | exact sP_g56 hP upd_same | exact sP_g56 hP rfl | exact hP
                have hD : va_D A (mW h0 kB kI kZ q (upd (upd (upd (upd (upd (upd (upd (upd (upd g 1 c1_g1) 23 c49_g23) 27 c49_g27) 30 c49_g30) 34 c49_g34) 36 c49_g36) 39 c49_g39) 51 c49_g51) 56 x102) (upF (upF (upF (upF (upF (upF (upF (upF (upF (upF (upF (upF (upF (upF (upF (upF (upF (upF F 22 c49_F22) 24 c49_F24) 25 c49_F25) 26 c49_F26) 28 c49_F28) 29 c49_F29) 31 c49_F31) 32 c49_F32) 33 c49_F33) 37 c49_F37) 38 c49_F38) 40 c49_F40) 41 c49_F41) 52 c49_F52) 53 c49_F53) 54 c49_F54) 55 w94) 57 c48_F57)) := by first | exact sD_g56 hD upd_same | exact sD_g56 hD rfl | exact hD
                exact Jj105 x102 w94 H _ ls hr hP hD hS (lv_sub hl [0, 1, 2, 3] rfl)
              · replace hr := iteT c79 hr
                refine lv_goto (tgt := 105) hx hb dX12_back_82 (by decide) ?_
                exact Jj105 d59_g56 d59_F55 H _ ls hr hP hD hS (lv_sub hl [0, 1, 2, 3] rfl)
        first | exact lp59 NN 0 0 (F 55) H _ ls hr (sP_eq (mW_cg (by repeat (first | with_reducible rfl | with_reducible refine upd_cg ?_ | refine Eq.trans ?_ (upd_id rfl))) (by repeat (first | with_reducible rfl | with_reducible refine upF_cg ?_ | refine Eq.trans ?_ (upF_id rfl)))) hP) (sD_eq (mW_cg (by repeat (first | with_reducible rfl | with_reducible refine upd_cg ?_ | refine Eq.trans ?_ (upd_id rfl))) (by repeat (first | with_reducible rfl | with_reducible refine upF_cg ?_ | refine Eq.trans ?_ (upF_id rfl)))) hD) hS (lv_sub hl [1, 2, 3, 0] rfl) | exact lp59 NN 0 0 (F 55) H _ ls hr hP hD hS (lv_sub hl [1, 2, 3, 0] rfl)
      have lp25 : ∀ (n25 : Nat) (y25_3 : Int32) (d25_F57 : (Nat → Int32)) (H : Heap) (locs : List Loc) (ls : Array Slot), L_back_25 c1_g23 c1_F22 k48 n25 y25_3 d25_F57 = some (r, c_g1, c_g23, c_g27, c_g30, c_g34, c_g36, c_g39, c_g51, c_g56, c_F22, c_F24, c_F25, c_F26, c_F28, c_F29, c_F31, c_F32, c_F33, c_F37, c_F38, c_F40, c_F41, c_F52, c_F53, c_F54, c_F55, c_F57) → va_P (dC, dI) vwCl (mW h0 kB kI kZ q (upd (upd g 1 c1_g1) 23 c1_g23) (upF (upF F 22 c1_F22) 57 d25_F57)) H → va_D A (mW h0 kB kI kZ q (upd (upd g 1 c1_g1) 23 c1_g23) (upF (upF F 22 c1_F22) 57 d25_F57)) → va_S A s.heap H locs → lv_has ls 4 [(0, .ref h0), (1, .int p0), (2, .int c1_g23), (3, .int y25_3)] → W p l e ({ frames := 48, cells := 0, slots := 0, locals := 1171 } : Room) s m args below meth c H locs 0 0 Q (F0 m 25 ls []) := by
        intro n25
        induction n25 with
        | zero => intro y25_3 d25_F57 H locs ls hr; exact nomatch (show none = some (r, c_g1, c_g23, c_g27, c_g30, c_g34, c_g36, c_g39, c_g51, c_g56, c_F22, c_F24, c_F25, c_F26, c_F28, c_F29, c_F31, c_F32, c_F33, c_F37, c_F38, c_F40, c_F41, c_F52, c_F53, c_F54, c_F55, c_F57) from hr)
        | succ n25 ih25 =>
          intro y25_3 d25_F57 H locs ls hr hP hD hS hl
          replace hr : B_back_25 c1_g23 c1_F22 k48 (L_back_25 c1_g23 c1_F22 k48 n25) y25_3 d25_F57 = some (r, c_g1, c_g23, c_g27, c_g30, c_g34, c_g36, c_g39, c_g51, c_g56, c_F22, c_F24, c_F25, c_F26, c_F28, c_F29, c_F31, c_F32, c_F33, c_F37, c_F38, c_F40, c_F41, c_F52, c_F53, c_F54, c_F55, c_F57) := hr
          unfold B_back_25 at hr
          refine lv_iload_n hx hb dX12_back_25 rfl (lv_at hl 3 rfl) ?_
          refine lv_iload_n hx hb dX12_back_26 rfl (lv_at hl 2 rfl) ?_
          refine lv_icmp_ge (tgt := 48) hx hb dX12_back_27 (by decide) (fun c27 => ?_) (fun c27 => ?_)
          · replace hr := iteT c27 hr
            exact Jk48 d25_F57 H _ ls hr hP hD hS (lv_sub hl [0, 1, 2] rfl)
          · replace hr := iteF c27 hr
            refine lv_aload_n hx hb dX12_back_30 rfl (lv_at hl 0 rfl) ?_
            refine va_get (D := (dC, dI)) (ci := 12) (v := .ref (q 57)) (C := RX12) (T := TX12) (N := 71) hx hb hts inX12 hown hK hP 0 rfl rfl 57 (by decide) (hts (.fieldLink RX12 125 "SpellTurnerModel" "asked" "[B") im_196) (fun _ h9 => h9) rfl dX12_back_31 ?_
            refine lv_iload_n hx hb dX12_back_34 rfl (lv_at hl 3 rfl) ?_
            refine lv_aload_n hx hb dX12_back_35 rfl (lv_at hl 0 rfl) ?_
            refine va_get (D := (dC, dI)) (ci := 12) (v := .ref (q 22)) (C := RX12) (T := TX12) (N := 71) hx hb hts inX12 hown hK hP 0 rfl rfl 22 (by decide) (hts (.fieldLink RX12 55 "SpellTurnerModel" "word" "[B") im_50) (fun _ h9 => h9) rfl dX12_back_36 ?_
            refine lv_iload_n hx hb dX12_back_39 rfl (lv_at hl 3 rfl) ?_
            replace hr := iteS hr
            obtain ⟨hi40, hr⟩ := hr
            refine va_bald (f := c1_F22) hx hb hK hP 14 0 rfl rfl (inbV hi40) dX12_back_40 ?_
            replace hr := iteS hr
            obtain ⟨hi41, hr⟩ := hr
            refine va_bast (f := d25_F57) hx hb hK hP hD hS 37 0 rfl rfl (inbV hi41) dX12_back_41 (fun H locs hP hD hS => ?_)
            obtain ⟨w41, ew41, hP, hD⟩ : ∃ w41 : Nat → Int32, w41 = (upd d25_F57 (Int32.toNatClampNeg y25_3) (vp_nar .byte (c1_F22 (Int32.toNatClampNeg y25_3)))) ∧ va_P (dC, dI) vwCl (mW h0 kB kI kZ q (upd (upd g 1 c1_g1) 23 c1_g23) (upF (upF F 22 c1_F22) 57 w41)) H ∧ va_D A (mW h0 kB kI kZ q (upd (upd g 1 c1_g1) 23 c1_g23) (upF (upF F 22 c1_F22) 57 w41)) := ⟨(upd d25_F57 (Int32.toNatClampNeg y25_3) (vp_nar .byte (c1_F22 (Int32.toNatClampNeg y25_3)))), rfl, by first | exact sP_F57 hP upF_same | exact sP_F57 hP rfl | exact hP, by first | exact sD_F57 hD upF_same | exact sD_F57 hD rfl | exact hD⟩
            replace hr := vlS hr w41 ew41
            clear ew41
            refine lv_iinc (v := (y25_3 + 1)) (lv' := [(3, .int (y25_3 + 1)), (0, .ref h0), (1, .int p0), (2, .int c1_g23)]) hx hb dX12_back_42 hl (k := 3) rfl rfl (by decide) rfl (fun ls hl => ?_)
            refine lv_goto (tgt := 25) hx hb dX12_back_45 (by decide) ?_
            exact ih25 (y25_3 + 1) w41 H _ ls hr hP hD hS (lv_sub hl [1, 2, 3, 0] rfl)
      first | exact lp25 NN 0 (F 57) H _ ls hr (sP_eq (mW_cg (by repeat (first | with_reducible rfl | with_reducible refine upd_cg ?_ | refine Eq.trans ?_ (upd_id rfl))) (by repeat (first | with_reducible rfl | with_reducible refine upF_cg ?_ | refine Eq.trans ?_ (upF_id rfl)))) hP) (sD_eq (mW_cg (by repeat (first | with_reducible rfl | with_reducible refine upd_cg ?_ | refine Eq.trans ?_ (upd_id rfl))) (by repeat (first | with_reducible rfl | with_reducible refine upF_cg ?_ | refine Eq.trans ?_ (upF_id rfl)))) hD) hS (lv_sub hl [2, 3, 1, 0] rfl) | exact lp25 NN 0 (F 57) H _ ls hr hP hD hS (lv_sub hl [2, 3, 1, 0] rfl)
    · replace hr := iteT c12 hr
      exact Jj15 H _ ls hr hP hD hS (lv_sub hl [] rfl)
set_option maxHeartbeats 4000000 in
set_option maxRecDepth 100000 in
theorem m_back (l : Launch) (dC : Nat → ClassId) (dI : Nat → Nat → Nat) (sz : Nat) (h0 : Nat) (kB kI kZ : ClassId) (q : Nat → Nat) (g : Nat → Int32) (F : Nat → Nat → Int32) (p0 : Int32) (r : Int32) (c_g1 : Int32) (c_g23 : Int32) (c_g27 : Int32) (c_g30 : Int32) (c_g34 : Int32) (c_g36 : Int32) (c_g39 : Int32) (c_g51 : Int32) (c_g56 : Int32) (c_F22 : (Nat → Int32)) (c_F24 : (Nat → Int32)) (c_F25 : (Nat → Int32)) (c_F26 : (Nat → Int32)) (c_F28 : (Nat → Int32)) (c_F29 : (Nat → Int32)) (c_F31 : (Nat → Int32)) (c_F32 : (Nat → Int32)) (c_F33 : (Nat → Int32)) (c_F37 : (Nat → Int32)) (c_F38 : (Nat → Int32)) (c_F40 : (Nat → Int32)) (c_F41 : (Nat → Int32)) (c_F52 : (Nat → Int32)) (c_F53 : (Nat → Int32)) (c_F54 : (Nat → Int32)) (c_F55 : (Nat → Int32)) (c_F57 : (Nat → Int32)) (hr : f_back g F p0 = some (r, c_g1, c_g23, c_g27, c_g30, c_g34, c_g36, c_g39, c_g51, c_g56, c_F22, c_F24, c_F25, c_F26, c_F28, c_F29, c_F31, c_F32, c_F33, c_F37, c_F38, c_F40, c_F41, c_F52, c_F53, c_F54, c_F55, c_F57)) : Met l yX12_back vmX12_back ({ frames := 48, cells := 0, slots := 0, locals := 1171 } : Room) (va_Pc [.ref h0, .int p0] (fun U => U.heap.size = sz ∧ va_P (dC, dI) vwCl (mW h0 kB kI kZ q g F) U.heap ∧ va_K (dC, dI) vwCl (mT kB kI kZ) U ∧ va_D (fun _ => True) (mW h0 kB kI kZ q g F))) (va_Qi (fun (rz : Int32) (_ : Unit) => rz = r) (fun _ t => va_P (dC, dI) vwCl (mW h0 kB kI kZ q (upd (upd (upd (upd (upd (upd (upd (upd (upd g 1 c_g1) 23 c_g23) 27 c_g27) 30 c_g30) 34 c_g34) 36 c_g36) 39 c_g39) 51 c_g51) 56 c_g56) (upF (upF (upF (upF (upF (upF (upF (upF (upF (upF (upF (upF (upF (upF (upF (upF (upF (upF F 22 c_F22) 24 c_F24) 25 c_F25) 26 c_F26) 28 c_F28) 29 c_F29) 31 c_F31) 32 c_F32) 33 c_F33) 37 c_F37) 38 c_F38) 40 c_F40) 41 c_F41) 52 c_F52) 53 c_F53) 54 c_F54) 55 c_F55) 57 c_F57)) t.heap ∧ va_K (dC, dI) vwCl (mT kB kI kZ) t ∧ va_D (va_A (mW h0 kB kI kZ q g F) sz) (mW h0 kB kI kZ q (upd (upd (upd (upd (upd (upd (upd (upd (upd g 1 c_g1) 23 c_g23) 27 c_g27) 30 c_g30) 34 c_g34) 36 c_g36) 39 c_g39) 51 c_g51) 56 c_g56) (upF (upF (upF (upF (upF (upF (upF (upF (upF (upF (upF (upF (upF (upF (upF (upF (upF (upF F 22 c_F22) 24 c_F24) 25 c_F25) 26 c_F26) 28 c_F28) 29 c_F29) 31 c_F31) 32 c_F32) 33 c_F33) 37 c_F37) 38 c_F38) 40 c_F40) 41 c_F41) 52 c_F52) 53 c_F53) 54 c_F54) 55 c_F55) 57 c_F57))) (va_A (mW h0 kB kI kZ q g F) sz)) 0 0 (va_A (mW h0 kB kI kZ q g F) sz) := by
  refine Met.ofW (cc := cX12_back) (maxL := 4) (ret := (some .int)) (by decide) rfl ?_
  intro p e s m args below meth c s₁ B hml hv
  obtain ⟨rfl, hsz, hP, hK, hD0⟩ := hv
  have hx := B.exec
  have hb := B.bytes
  have hrt := B.returns
  have hts := atoms_spec (ws := vmX12_back) B.pre
  have hown : s.vm.findClass RX12 = some m.cls := findClass_of_methodNamed B.named
  subst hsz
  have hD := hD0.self (sz := s.heap.size)
  generalize hAe : va_A (mW h0 kB kI kZ q g F) s.heap.size = A at hD ⊢
  have hA : ∀ q : Nat, s.heap.size ≤ q → A q := fun q h => by rw [← hAe]; exact Or.inr h
  have hS : va_S A s.heap s.heap [] := va_S.rf
  have hl := lv_entry ([.ref h0, .int p0]) (n := 4) (Nat.le_of_ble_eq_true rfl)
  rw [lg_entry_eq]
  generalize (lg_sl ([.ref h0, .int p0]) ++ List.replicate (4 - (lg_sl ([.ref h0, .int p0])).length) Slot.unset).toArray = ls at hl ⊢
  exact bm_back p0 r c_g1 c_g23 c_g27 c_g30 c_g34 c_g36 c_g39 c_g51 c_g56 c_F22 c_F24 c_F25 c_F26 c_F28 c_F29 c_F31 c_F32 c_F33 c_F37 c_F38 c_F40 c_F41 c_F52 c_F53 c_F54 c_F55 c_F57 hr hx hb hml hown hts hA hK hP hD hS hl (fun pc ls rz c_g1z c_g23z c_g27z c_g30z c_g34z c_g36z c_g39z c_g51z c_g56z c_F22z c_F24z c_F25z c_F26z c_F28z c_F29z c_F31z c_F32z c_F33z c_F37z c_F38z c_F40z c_F41z c_F52z c_F53z c_F54z c_F55z c_F57z H locs he hd hP hD hS => by cases he; exact W.iret (v := r) hx hb hrt (fun t ht hW => ⟨⟨r, (), rfl, rfl, by rw [ht]; exact hP, va_K.moved hW.alike hK, hD⟩, hS.F ht⟩) hS.2.2 hd)
set_option maxHeartbeats 4000000 in
set_option maxRecDepth 100000 in
theorem bm_collisions {p : Program} {l : Launch} {e : Env} {s : State} {m : MethodId} {args : Array Value} {below : List Frame} {meth : Method} {c : Code} {Q : State → Prop} {A : Nat → Prop} {dC : Nat → ClassId} {dI : Nat → Nat → Nat} {h0 : Nat} {kB kI kZ : ClassId} {q : Nat → Nat} {g : Nat → Int32} {F : Nat → Nat → Int32} {H : Heap} {locs : List Loc} {ls : Array Slot} (p0 : Int32) (r : Int32) (c_g23 : Int32) (c_g27 : Int32) (c_g30 : Int32) (c_g34 : Int32) (c_g36 : Int32) (c_g39 : Int32) (c_g51 : Int32) (c_g59 : Int32) (c_F22 : (Nat → Int32)) (c_F24 : (Nat → Int32)) (c_F25 : (Nat → Int32)) (c_F26 : (Nat → Int32)) (c_F28 : (Nat → Int32)) (c_F29 : (Nat → Int32)) (c_F31 : (Nat → Int32)) (c_F32 : (Nat → Int32)) (c_F33 : (Nat → Int32)) (c_F37 : (Nat → Int32)) (c_F38 : (Nat → Int32)) (c_F40 : (Nat → Int32)) (c_F41 : (Nat → Int32)) (c_F52 : (Nat → Int32)) (c_F53 : (Nat → Int32)) (c_F54 : (Nat → Int32)) (c_F58 : (Nat → Int32)) (hr : f_collisions g F p0 = some (r, c_g23, c_g27, c_g30, c_g34, c_g36, c_g39, c_g51, c_g59, c_F22, c_F24, c_F25, c_F26, c_F28, c_F29, c_F31, c_F32, c_F33, c_F37, c_F38, c_F40, c_F41, c_F52, c_F53, c_F54, c_F58)) (hx : p.tables.exec = Jvm.exec) (hb : c.code = cX12_collisions) (hml : c.maxLocals = 5) (hown : s.vm.findClass RX12 = some m.cls) (hts : ∀ w ∈ vmX12_collisions, w.before args s = true) (hA : ∀ q : Nat, s.heap.size ≤ q → A q) (hK : va_K (dC, dI) vwCl (mT kB kI kZ) s) (hP : va_P (dC, dI) vwCl (mW h0 kB kI kZ q g F) H) (hD : va_D A (mW h0 kB kI kZ q g F)) (hS : va_S A s.heap H locs) (hl : lv_has ls 5 [(0, .ref h0), (1, .int p0)])
    (K : ∀ (pc : Nat) (ls : Array Slot) (rz : Int32) (c_g23z : Int32) (c_g27z : Int32) (c_g30z : Int32) (c_g34z : Int32) (c_g36z : Int32) (c_g39z : Int32) (c_g51z : Int32) (c_g59z : Int32) (c_F22z : (Nat → Int32)) (c_F24z : (Nat → Int32)) (c_F25z : (Nat → Int32)) (c_F26z : (Nat → Int32)) (c_F28z : (Nat → Int32)) (c_F29z : (Nat → Int32)) (c_F31z : (Nat → Int32)) (c_F32z : (Nat → Int32)) (c_F33z : (Nat → Int32)) (c_F37z : (Nat → Int32)) (c_F38z : (Nat → Int32)) (c_F40z : (Nat → Int32)) (c_F41z : (Nat → Int32)) (c_F52z : (Nat → Int32)) (c_F53z : (Nat → Int32)) (c_F54z : (Nat → Int32)) (c_F58z : (Nat → Int32)) (H : Heap) (locs : List Loc), some (rz, c_g23z, c_g27z, c_g30z, c_g34z, c_g36z, c_g39z, c_g51z, c_g59z, c_F22z, c_F24z, c_F25z, c_F26z, c_F28z, c_F29z, c_F31z, c_F32z, c_F33z, c_F37z, c_F38z, c_F40z, c_F41z, c_F52z, c_F53z, c_F54z, c_F58z) = some (r, c_g23, c_g27, c_g30, c_g34, c_g36, c_g39, c_g51, c_g59, c_F22, c_F24, c_F25, c_F26, c_F28, c_F29, c_F31, c_F32, c_F33, c_F37, c_F38, c_F40, c_F41, c_F52, c_F53, c_F54, c_F58) → decode cX12_collisions pc = .ok (.ireturn, 1) → va_P (dC, dI) vwCl (mW h0 kB kI kZ q (upd (upd (upd (upd (upd (upd (upd (upd g 23 c_g23z) 27 c_g27z) 30 c_g30z) 34 c_g34z) 36 c_g36z) 39 c_g39z) 51 c_g51z) 59 c_g59z) (upF (upF (upF (upF (upF (upF (upF (upF (upF (upF (upF (upF (upF (upF (upF (upF (upF F 22 c_F22z) 24 c_F24z) 25 c_F25z) 26 c_F26z) 28 c_F28z) 29 c_F29z) 31 c_F31z) 32 c_F32z) 33 c_F33z) 37 c_F37z) 38 c_F38z) 40 c_F40z) 41 c_F41z) 52 c_F52z) 53 c_F53z) 54 c_F54z) 58 c_F58z)) H → va_D A (mW h0 kB kI kZ q (upd (upd (upd (upd (upd (upd (upd (upd g 23 c_g23z) 27 c_g27z) 30 c_g30z) 34 c_g34z) 36 c_g36z) 39 c_g39z) 51 c_g51z) 59 c_g59z) (upF (upF (upF (upF (upF (upF (upF (upF (upF (upF (upF (upF (upF (upF (upF (upF (upF F 22 c_F22z) 24 c_F24z) 25 c_F25z) 26 c_F26z) 28 c_F28z) 29 c_F29z) 31 c_F31z) 32 c_F32z) 33 c_F33z) 37 c_F37z) 38 c_F38z) 40 c_F40z) 41 c_F41z) 52 c_F52z) 53 c_F53z) 54 c_F54z) 58 c_F58z)) → va_S A s.heap H locs → W p l e ({ frames := 48, cells := 0, slots := 0, locals := 1171 } : Room) s m args below meth c H locs 0 0 Q (F0 m pc ls [.int rz])) : W p l e ({ frames := 48, cells := 0, slots := 0, locals := 1171 } : Room) s m args below meth c H locs 0 0 Q (F0 m 0 ls []) := by
  unfold f_collisions at hr
  refine lv_aload_n hx hb dX12_collisions_0 rfl (lv_at hl 0 rfl) ?_
  refine lv_iload_n hx hb dX12_collisions_1 rfl (lv_at hl 1 rfl) ?_
  replace hr := b1S hr
  obtain ⟨r2z, hc2, hr⟩ := hr
  have hFc := fr_all hD hS hA
  refine va_calli (va_runV (As := [.int p0]) (rest := []) ⟨hx, hb, hml, hown, hts⟩ (m_isStage l dC dI H.size h0 kB kI kZ q g F p0 r2z hc2) (cwV 1 hts gw_X12_isStage_300 rfl rfl rfl (by decide +kernel) ⟨Nat.le_of_ble_eq_true rfl, Nat.le_of_ble_eq_true rfl⟩) ⟨fun a U g mk q => by obtain ⟨q0, q1, qP, qK, qD⟩ := q; exact ⟨q0, q1, qP, va_K.moved (u := U) (U := U.calling g mk a) (Vm.Alike.refl U.vm) qK, qD⟩, va_recv hK hP (ci := 12) (q0 := 0) rfl rfl, fun U hU hW => ⟨rfl, by rw [hU], by rw [hU]; exact hP, va_K.moved hW.alike hK, hD.weaken (fun _ _ _ _ => trivial)⟩⟩ rfl rfl hl.1 rfl (lv_room (Nat.le_of_ble_eq_true rfl)) dX12_collisions_2 ⟨Nat.le_of_ble_eq_true rfl, Nat.le_of_ble_eq_true rfl⟩) hS (fun q _ h => hFc q h) hFc (fun r2 u t H1 locs ht hvm hw hB hz1 hk1 hS => ?_)
  replace hw : r2 = r2z := hw
  subst hw
  obtain ⟨hP1, hK1, hD1⟩ := hB
  rw [ht] at hP1
  obtain ⟨hP, hD⟩ := jn_all (w1 := (mW h0 kB kI kZ q g F)) hFc hP1 hD1
  clear hFc hP1 hK1 hD1 hk1 hz1 ht hvm
  generalize H1 = H at hP hS ⊢
  have hP : va_P (dC, dI) vwCl (mW h0 kB kI kZ q g F) H := hP
  have hD : va_D A (mW h0 kB kI kZ q g F) := hD
  refine lv_if_ne (tgt := 11) hx hb dX12_collisions_5 (by decide) (fun c5 => ?_) (fun c5 => ?_)
  · replace hr := iteF c5 hr
    refine lv_aload_n hx hb dX12_collisions_11 rfl (lv_at hl 0 rfl) ?_
    replace hr := b23S hr
    obtain ⟨c12_g23, c12_g27, c12_g30, c12_g34, c12_g36, c12_g39, c12_g51, c12_F22, c12_F24, c12_F25, c12_F26, c12_F28, c12_F29, c12_F31, c12_F32, c12_F33, c12_F37, c12_F38, c12_F40, c12_F41, c12_F52, c12_F53, c12_F54, hc12, hr⟩ := hr
    have hFc := fr_all hD hS hA
    refine va_callv (va_runV (As := []) (rest := []) ⟨hx, hb, hml, hown, hts⟩ (m_make l dC dI H.size h0 kB kI kZ q g F c12_g23 c12_g27 c12_g30 c12_g34 c12_g36 c12_g39 c12_g51 c12_F22 c12_F24 c12_F25 c12_F26 c12_F28 c12_F29 c12_F31 c12_F32 c12_F33 c12_F37 c12_F38 c12_F40 c12_F41 c12_F52 c12_F53 c12_F54 hc12) (cwV 0 hts gw_X12_make_315 rfl rfl rfl (by decide +kernel) ⟨Nat.le_of_ble_eq_true rfl, Nat.le_of_ble_eq_true rfl⟩) ⟨fun a U g mk q => by obtain ⟨q0, q1, qP, qK, qD⟩ := q; exact ⟨q0, q1, qP, va_K.moved (u := U) (U := U.calling g mk a) (Vm.Alike.refl U.vm) qK, qD⟩, va_recv hK hP (ci := 12) (q0 := 0) rfl rfl, fun U hU hW => ⟨rfl, by rw [hU], by rw [hU]; exact hP, va_K.moved hW.alike hK, hD.weaken (fun _ _ _ _ => trivial)⟩⟩ rfl rfl hl.1 rfl (lv_room (Nat.le_of_ble_eq_true rfl)) dX12_collisions_12 ⟨Nat.le_of_ble_eq_true rfl, Nat.le_of_ble_eq_true rfl⟩) hS (fun q _ h => hFc q h) hFc (fun u t H1 locs ht hvm hw hB hz1 hk1 hS => ?_)
    obtain ⟨hP1, hK1, hD1⟩ := hB
    rw [ht] at hP1
    obtain ⟨hP, hD⟩ := jn_all (w1 := (mW h0 kB kI kZ q (upd (upd (upd (upd (upd (upd (upd g 23 c12_g23) 27 c12_g27) 30 c12_g30) 34 c12_g34) 36 c12_g36) 39 c12_g39) 51 c12_g51) (upF (upF (upF (upF (upF (upF (upF (upF (upF (upF (upF (upF (upF (upF (upF (upF F 22 c12_F22) 24 c12_F24) 25 c12_F25) 26 c12_F26) 28 c12_F28) 29 c12_F29) 31 c12_F31) 32 c12_F32) 33 c12_F33) 37 c12_F37) 38 c12_F38) 40 c12_F40) 41 c12_F41) 52 c12_F52) 53 c12_F53) 54 c12_F54))) hFc hP1 hD1
    clear hFc hP1 hK1 hD1 hk1 hz1 ht hvm
    generalize H1 = H at hP hS ⊢
    have hP : va_P (dC, dI) vwCl (mW h0 kB kI kZ q (upd (upd (upd (upd (upd (upd (upd g 23 c12_g23) 27 c12_g27) 30 c12_g30) 34 c12_g34) 36 c12_g36) 39 c12_g39) 51 c12_g51) (upF (upF (upF (upF (upF (upF (upF (upF (upF (upF (upF (upF (upF (upF (upF (upF F 22 c12_F22) 24 c12_F24) 25 c12_F25) 26 c12_F26) 28 c12_F28) 29 c12_F29) 31 c12_F31) 32 c12_F32) 33 c12_F33) 37 c12_F37) 38 c12_F38) 40 c12_F40) 41 c12_F41) 52 c12_F52) 53 c12_F53) 54 c12_F54)) H := hP
    have hD : va_D A (mW h0 kB kI kZ q (upd (upd (upd (upd (upd (upd (upd g 23 c12_g23) 27 c12_g27) 30 c12_g30) 34 c12_g34) 36 c12_g36) 39 c12_g39) 51 c12_g51) (upF (upF (upF (upF (upF (upF (upF (upF (upF (upF (upF (upF (upF (upF (upF (upF F 22 c12_F22) 24 c12_F24) 25 c12_F25) 26 c12_F26) 28 c12_F28) 29 c12_F29) 31 c12_F31) 32 c12_F32) 33 c12_F33) 37 c12_F37) 38 c12_F38) 40 c12_F40) 41 c12_F41) 52 c12_F52) 53 c12_F53) 54 c12_F54)) := hD
    refine lv_aload_n hx hb dX12_collisions_15 rfl (lv_at hl 0 rfl) ?_
    refine lv_iconst (v := 0) hx hb dX12_collisions_16 (by decide +kernel) ?_
    refine va_put (D := (dC, dI)) (ci := 12) (v := .int 0) (ty := .int) (C := RX12) (T := TX12) (N := 71) hx hb hts inX12 tyX12 tyX12_ok nmX12 hown hK hP hD hS 0 rfl rfl 59 (by decide) (hts (.fieldLink RX12 325 "SpellTurnerModel" "pairMany" "I") im_92) (fun _ h9 => h9) rfl (by decide +kernel) rfl rfl (Nat.le_of_ble_eq_true rfl) dX12_collisions_17 (fun H locs hP hD hS => ?_)
    have hP : va_P (dC, dI) vwCl (mW h0 kB kI kZ q (upd (upd (upd (upd (upd (upd (upd (upd g 23 c12_g23) 27 c12_g27) 30 c12_g30) 34 c12_g34) 36 c12_g36) 39 c12_g39) 51 c12_g51) 59 0) (upF (upF (upF (upF (upF (upF (upF (upF (upF (upF (upF (upF (upF (upF (upF (upF F 22 c12_F22) 24 c12_F24) 25 c12_F25) 26 c12_F26) 28 c12_F28) 29 c12_F29) 31 c12_F31) 32 c12_F32) 33 c12_F33) 37 c12_F37) 38 c12_F38) 40 c12_F40) 41 c12_F41) 52 c12_F52) 53 c12_F53) 54 c12_F54)) H := by first | exact sP_g59 hP rfl | exact sP_g59 hP upd_same | exact hP
    have hD : va_D A (mW h0 kB kI kZ q (upd (upd (upd (upd (upd (upd (upd (upd g 23 c12_g23) 27 c12_g27) 30 c12_g30) 34 c12_g34) 36 c12_g36) 39 c12_g39) 51 c12_g51) 59 0) (upF (upF (upF (upF (upF (upF (upF (upF (upF (upF (upF (upF (upF (upF (upF (upF F 22 c12_F22) 24 c12_F24) 25 c12_F25) 26 c12_F26) 28 c12_F28) 29 c12_F29) 31 c12_F31) 32 c12_F32) 33 c12_F33) 37 c12_F37) 38 c12_F38) 40 c12_F40) 41 c12_F41) 52 c12_F52) 53 c12_F53) 54 c12_F54)) := by first | exact sD_g59 hD rfl | exact sD_g59 hD upd_same | exact hD
    refine lv_iconst (v := 0) hx hb dX12_collisions_20 (by decide +kernel) ?_
    refine lv_istore_n (lv' := [(2, .int 0), (0, .ref h0), (1, .int p0)]) hx hb dX12_collisions_21 rfl hl (by decide) rfl (fun ls hl => ?_)
    refine lv_iconst (v := 0) hx hb dX12_collisions_22 (by decide +kernel) ?_
    refine lv_istore_n (lv' := [(3, .int 0), (2, .int 0), (0, .ref h0), (1, .int p0)]) hx hb dX12_collisions_23 rfl hl (by decide) rfl (fun ls hl => ?_)
    have lp24 : ∀ (n24 : Nat) (y24_2 : Int32) (y24_3 : Int32) (d24_g59 : Int32) (d24_F58 : (Nat → Int32)) (H : Heap) (locs : List Loc) (ls : Array Slot), L_collisions_24 g F p0 c12_g23 c12_g27 c12_g30 c12_g34 c12_g36 c12_g39 c12_g51 c12_F22 c12_F24 c12_F25 c12_F26 c12_F28 c12_F29 c12_F31 c12_F32 c12_F33 c12_F37 c12_F38 c12_F40 c12_F41 c12_F52 c12_F53 c12_F54 n24 y24_2 y24_3 d24_g59 d24_F58 = some (r, c_g23, c_g27, c_g30, c_g34, c_g36, c_g39, c_g51, c_g59, c_F22, c_F24, c_F25, c_F26, c_F28, c_F29, c_F31, c_F32, c_F33, c_F37, c_F38, c_F40, c_F41, c_F52, c_F53, c_F54, c_F58) → va_P (dC, dI) vwCl (mW h0 kB kI kZ q (upd (upd (upd (upd (upd (upd (upd (upd g 23 c12_g23) 27 c12_g27) 30 c12_g30) 34 c12_g34) 36 c12_g36) 39 c12_g39) 51 c12_g51) 59 d24_g59) (upF (upF (upF (upF (upF (upF (upF (upF (upF (upF (upF (upF (upF (upF (upF (upF (upF F 22 c12_F22) 24 c12_F24) 25 c12_F25) 26 c12_F26) 28 c12_F28) 29 c12_F29) 31 c12_F31) 32 c12_F32) 33 c12_F33) 37 c12_F37) 38 c12_F38) 40 c12_F40) 41 c12_F41) 52 c12_F52) 53 c12_F53) 54 c12_F54) 58 d24_F58)) H → va_D A (mW h0 kB kI kZ q (upd (upd (upd (upd (upd (upd (upd (upd g 23 c12_g23) 27 c12_g27) 30 c12_g30) 34 c12_g34) 36 c12_g36) 39 c12_g39) 51 c12_g51) 59 d24_g59) (upF (upF (upF (upF (upF (upF (upF (upF (upF (upF (upF (upF (upF (upF (upF (upF (upF F 22 c12_F22) 24 c12_F24) 25 c12_F25) 26 c12_F26) 28 c12_F28) 29 c12_F29) 31 c12_F31) 32 c12_F32) 33 c12_F33) 37 c12_F37) 38 c12_F38) 40 c12_F40) 41 c12_F41) 52 c12_F52) 53 c12_F53) 54 c12_F54) 58 d24_F58)) → va_S A s.heap H locs → lv_has ls 5 [(0, .ref h0), (1, .int p0), (2, .int y24_2), (3, .int y24_3)] → W p l e ({ frames := 48, cells := 0, slots := 0, locals := 1171 } : Room) s m args below meth c H locs 0 0 Q (F0 m 24 ls []) := by
      intro n24
      induction n24 with
      | zero => intro y24_2 y24_3 d24_g59 d24_F58 H locs ls hr; exact nomatch (show none = some (r, c_g23, c_g27, c_g30, c_g34, c_g36, c_g39, c_g51, c_g59, c_F22, c_F24, c_F25, c_F26, c_F28, c_F29, c_F31, c_F32, c_F33, c_F37, c_F38, c_F40, c_F41, c_F52, c_F53, c_F54, c_F58) from hr)
      | succ n24 ih24 =>
        intro y24_2 y24_3 d24_g59 d24_F58 H locs ls hr hP hD hS hl
        replace hr : B_collisions_24 g F p0 c12_g23 c12_g27 c12_g30 c12_g34 c12_g36 c12_g39 c12_g51 c12_F22 c12_F24 c12_F25 c12_F26 c12_F28 c12_F29 c12_F31 c12_F32 c12_F33 c12_F37 c12_F38 c12_F40 c12_F41 c12_F52 c12_F53 c12_F54 (L_collisions_24 g F p0 c12_g23 c12_g27 c12_g30 c12_g34 c12_g36 c12_g39 c12_g51 c12_F22 c12_F24 c12_F25 c12_F26 c12_F28 c12_F29 c12_F31 c12_F32 c12_F33 c12_F37 c12_F38 c12_F40 c12_F41 c12_F52 c12_F53 c12_F54 n24) y24_2 y24_3 d24_g59 d24_F58 = some (r, c_g23, c_g27, c_g30, c_g34, c_g36, c_g39, c_g51, c_g59, c_F22, c_F24, c_F25, c_F26, c_F28, c_F29, c_F31, c_F32, c_F33, c_F37, c_F38, c_F40, c_F41, c_F52, c_F53, c_F54, c_F58) := hr
        unfold B_collisions_24 at hr
        refine lv_iload_n hx hb dX12_collisions_24 rfl (lv_at hl 3 rfl) ?_
        refine lv_aload_n hx hb dX12_collisions_25 rfl (lv_at hl 0 rfl) ?_
        refine va_get (D := (dC, dI)) (ci := 12) (v := .int (g 48)) (C := RX12) (T := TX12) (N := 71) hx hb hts inX12 hown hK hP 0 rfl rfl 48 (by decide) (hts (.fieldLink RX12 312 "SpellTurnerModel" "words" "I") im_85) (fun _ h9 => h9) rfl dX12_collisions_26 ?_
        refine lv_icmp_ge (tgt := 115) hx hb dX12_collisions_29 (by decide) (fun c29 => ?_) (fun c29 => ?_)
        · replace hr := iteT c29 hr
          refine lv_iload_n hx hb dX12_collisions_115 rfl (lv_at hl 2 rfl) ?_
          first | exact K 116 ls _ _ _ _ _ _ _ _ _ _ _ _ _ _ _ _ _ _ _ _ _ _ _ _ _ _ H _ hr dX12_collisions_116 (sP_eq (mW_cg (by repeat (first | with_reducible rfl | with_reducible refine upd_cg ?_ | refine Eq.trans ?_ (upd_id rfl))) (by repeat (first | with_reducible rfl | with_reducible refine upF_cg ?_ | refine Eq.trans ?_ (upF_id rfl)))) hP) (sD_eq (mW_cg (by repeat (first | with_reducible rfl | with_reducible refine upd_cg ?_ | refine Eq.trans ?_ (upd_id rfl))) (by repeat (first | with_reducible rfl | with_reducible refine upF_cg ?_ | refine Eq.trans ?_ (upF_id rfl)))) hD) hS | exact K 116 ls _ _ _ _ _ _ _ _ _ _ _ _ _ _ _ _ _ _ _ _ _ _ _ _ _ _ H _ hr dX12_collisions_116 hP hD hS
        · replace hr := iteF c29 hr
          refine lv_iload_n hx hb dX12_collisions_32 rfl (lv_at hl 3 rfl) ?_
          refine lv_iconst (v := 1) hx hb dX12_collisions_33 (by decide +kernel) ?_
          refine lv_iadd hx hb dX12_collisions_34 ?_
          refine lv_topi (fun x35 ex35 => ?_)
          replace hr := vlS hr x35 ex35
          clear ex35
          refine lv_istore (lv' := [(4, .int x35), (0, .ref h0), (1, .int p0), (2, .int y24_2), (3, .int y24_3)]) hx hb dX12_collisions_35 hl (by decide) rfl (fun ls hl => ?_)
          replace hr := jnS hr
          obtain ⟨k109, hk109, hr⟩ := hr
          have Jk109 : ∀ (x109_2 : Int32) (c109_g59 : Int32) (c109_F58 : (Nat → Int32)) (H : Heap) (locs : List Loc) (ls : Array Slot), k109 x109_2 c109_g59 c109_F58 = some (r, c_g23, c_g27, c_g30, c_g34, c_g36, c_g39, c_g51, c_g59, c_F22, c_F24, c_F25, c_F26, c_F28, c_F29, c_F31, c_F32, c_F33, c_F37, c_F38, c_F40, c_F41, c_F52, c_F53, c_F54, c_F58) → va_P (dC, dI) vwCl (mW h0 kB kI kZ q (upd (upd (upd (upd (upd (upd (upd (upd g 23 c12_g23) 27 c12_g27) 30 c12_g30) 34 c12_g34) 36 c12_g36) 39 c12_g39) 51 c12_g51) 59 c109_g59) (upF (upF (upF (upF (upF (upF (upF (upF (upF (upF (upF (upF (upF (upF (upF (upF (upF F 22 c12_F22) 24 c12_F24) 25 c12_F25) 26 c12_F26) 28 c12_F28) 29 c12_F29) 31 c12_F31) 32 c12_F32) 33 c12_F33) 37 c12_F37) 38 c12_F38) 40 c12_F40) 41 c12_F41) 52 c12_F52) 53 c12_F53) 54 c12_F54) 58 c109_F58)) H → va_D A (mW h0 kB kI kZ q (upd (upd (upd (upd (upd (upd (upd (upd g 23 c12_g23) 27 c12_g27) 30 c12_g30) 34 c12_g34) 36 c12_g36) 39 c12_g39) 51 c12_g51) 59 c109_g59) (upF (upF (upF (upF (upF (upF (upF (upF (upF (upF (upF (upF (upF (upF (upF (upF (upF F 22 c12_F22) 24 c12_F24) 25 c12_F25) 26 c12_F26) 28 c12_F28) 29 c12_F29) 31 c12_F31) 32 c12_F32) 33 c12_F33) 37 c12_F37) 38 c12_F38) 40 c12_F40) 41 c12_F41) 52 c12_F52) 53 c12_F53) 54 c12_F54) 58 c109_F58)) → va_S A s.heap H locs → lv_has ls 5 [(0, .ref h0), (1, .int p0), (2, .int x109_2), (3, .int y24_3)] → W p l e ({ frames := 48, cells := 0, slots := 0, locals := 1171 } : Room) s m args below meth c H locs 0 0 Q (F0 m 109 ls []) := by
            intro x109_2 c109_g59 c109_F58 H locs ls hr hP hD hS hl
            rw [hk109] at hr
            refine lv_iinc (v := (y24_3 + 1)) (lv' := [(3, .int (y24_3 + 1)), (0, .ref h0), (1, .int p0), (2, .int x109_2)]) hx hb dX12_collisions_109 hl (k := 3) rfl rfl (by decide) rfl (fun ls hl => ?_)
            refine lv_goto (tgt := 24) hx hb dX12_collisions_112 (by decide) ?_
            exact ih24 x109_2 (y24_3 + 1) c109_g59 c109_F58 H _ ls hr hP hD hS (lv_sub hl [1, 2, 3, 0] rfl)
          have lp37 : ∀ (n37 : Nat) (y37_2 : Int32) (y37_4 : Int32) (d37_g59 : Int32) (d37_F58 : (Nat → Int32)) (H : Heap) (locs : List Loc) (ls : Array Slot), L_collisions_37 g F p0 c12_g23 c12_g27 c12_g30 c12_g34 c12_g36 c12_g39 c12_g51 c12_F22 c12_F24 c12_F25 c12_F26 c12_F28 c12_F29 c12_F31 c12_F32 c12_F33 c12_F37 c12_F38 c12_F40 c12_F41 c12_F52 c12_F53 c12_F54 y24_3 k109 n37 y37_2 y37_4 d37_g59 d37_F58 = some (r, c_g23, c_g27, c_g30, c_g34, c_g36, c_g39, c_g51, c_g59, c_F22, c_F24, c_F25, c_F26, c_F28, c_F29, c_F31, c_F32, c_F33, c_F37, c_F38, c_F40, c_F41, c_F52, c_F53, c_F54, c_F58) → va_P (dC, dI) vwCl (mW h0 kB kI kZ q (upd (upd (upd (upd (upd (upd (upd (upd g 23 c12_g23) 27 c12_g27) 30 c12_g30) 34 c12_g34) 36 c12_g36) 39 c12_g39) 51 c12_g51) 59 d37_g59) (upF (upF (upF (upF (upF (upF (upF (upF (upF (upF (upF (upF (upF (upF (upF (upF (upF F 22 c12_F22) 24 c12_F24) 25 c12_F25) 26 c12_F26) 28 c12_F28) 29 c12_F29) 31 c12_F31) 32 c12_F32) 33 c12_F33) 37 c12_F37) 38 c12_F38) 40 c12_F40) 41 c12_F41) 52 c12_F52) 53 c12_F53) 54 c12_F54) 58 d37_F58)) H → va_D A (mW h0 kB kI kZ q (upd (upd (upd (upd (upd (upd (upd (upd g 23 c12_g23) 27 c12_g27) 30 c12_g30) 34 c12_g34) 36 c12_g36) 39 c12_g39) 51 c12_g51) 59 d37_g59) (upF (upF (upF (upF (upF (upF (upF (upF (upF (upF (upF (upF (upF (upF (upF (upF (upF F 22 c12_F22) 24 c12_F24) 25 c12_F25) 26 c12_F26) 28 c12_F28) 29 c12_F29) 31 c12_F31) 32 c12_F32) 33 c12_F33) 37 c12_F37) 38 c12_F38) 40 c12_F40) 41 c12_F41) 52 c12_F52) 53 c12_F53) 54 c12_F54) 58 d37_F58)) → va_S A s.heap H locs → lv_has ls 5 [(0, .ref h0), (1, .int p0), (2, .int y37_2), (3, .int y24_3), (4, .int y37_4)] → W p l e ({ frames := 48, cells := 0, slots := 0, locals := 1171 } : Room) s m args below meth c H locs 0 0 Q (F0 m 37 ls []) := by
            intro n37
            induction n37 with
            | zero => intro y37_2 y37_4 d37_g59 d37_F58 H locs ls hr; exact nomatch (show none = some (r, c_g23, c_g27, c_g30, c_g34, c_g36, c_g39, c_g51, c_g59, c_F22, c_F24, c_F25, c_F26, c_F28, c_F29, c_F31, c_F32, c_F33, c_F37, c_F38, c_F40, c_F41, c_F52, c_F53, c_F54, c_F58) from hr)
            | succ n37 ih37 =>
              intro y37_2 y37_4 d37_g59 d37_F58 H locs ls hr hP hD hS hl
              replace hr : B_collisions_37 g F p0 c12_g23 c12_g27 c12_g30 c12_g34 c12_g36 c12_g39 c12_g51 c12_F22 c12_F24 c12_F25 c12_F26 c12_F28 c12_F29 c12_F31 c12_F32 c12_F33 c12_F37 c12_F38 c12_F40 c12_F41 c12_F52 c12_F53 c12_F54 y24_3 k109 (L_collisions_37 g F p0 c12_g23 c12_g27 c12_g30 c12_g34 c12_g36 c12_g39 c12_g51 c12_F22 c12_F24 c12_F25 c12_F26 c12_F28 c12_F29 c12_F31 c12_F32 c12_F33 c12_F37 c12_F38 c12_F40 c12_F41 c12_F52 c12_F53 c12_F54 y24_3 k109 n37) y37_2 y37_4 d37_g59 d37_F58 = some (r, c_g23, c_g27, c_g30, c_g34, c_g36, c_g39, c_g51, c_g59, c_F22, c_F24, c_F25, c_F26, c_F28, c_F29, c_F31, c_F32, c_F33, c_F37, c_F38, c_F40, c_F41, c_F52, c_F53, c_F54, c_F58) := hr
              unfold B_collisions_37 at hr
              refine lv_iload hx hb dX12_collisions_37 (lv_at hl 4 rfl) ?_
              refine lv_aload_n hx hb dX12_collisions_39 rfl (lv_at hl 0 rfl) ?_
              refine va_get (D := (dC, dI)) (ci := 12) (v := .int (g 48)) (C := RX12) (T := TX12) (N := 71) hx hb hts inX12 hown hK hP 0 rfl rfl 48 (by decide) (hts (.fieldLink RX12 312 "SpellTurnerModel" "words" "I") im_85) (fun _ h9 => h9) rfl dX12_collisions_40 ?_
              refine lv_icmp_ge (tgt := 109) hx hb dX12_collisions_43 (by decide) (fun c43 => ?_) (fun c43 => ?_)
              · replace hr := iteT c43 hr
                exact Jk109 y37_2 d37_g59 d37_F58 H _ ls hr hP hD hS (lv_sub hl [0, 1, 2, 3] rfl)
              · replace hr := iteF c43 hr
                refine lv_aload_n hx hb dX12_collisions_46 rfl (lv_at hl 0 rfl) ?_
                refine lv_iload_n hx hb dX12_collisions_47 rfl (lv_at hl 3 rfl) ?_
                refine lv_iload hx hb dX12_collisions_48 (lv_at hl 4 rfl) ?_
                refine lv_iload_n hx hb dX12_collisions_50 rfl (lv_at hl 1 rfl) ?_
                replace hr := b1S hr
                obtain ⟨r51z, hc51, hr⟩ := hr
                have hFc := fr_all hD hS hA
                refine va_calli (va_runV (As := [.int y24_3, .int y37_4, .int p0]) (rest := []) ⟨hx, hb, hml, hown, hts⟩ (m_collide l dC dI H.size h0 kB kI kZ q (upd (upd (upd (upd (upd (upd (upd (upd g 23 c12_g23) 27 c12_g27) 30 c12_g30) 34 c12_g34) 36 c12_g36) 39 c12_g39) 51 c12_g51) 59 d37_g59) (upF (upF (upF (upF (upF (upF (upF (upF (upF (upF (upF (upF (upF (upF (upF (upF (upF F 22 c12_F22) 24 c12_F24) 25 c12_F25) 26 c12_F26) 28 c12_F28) 29 c12_F29) 31 c12_F31) 32 c12_F32) 33 c12_F33) 37 c12_F37) 38 c12_F38) 40 c12_F40) 41 c12_F41) 52 c12_F52) 53 c12_F53) 54 c12_F54) 58 d37_F58) y24_3 y37_4 p0 r51z hc51) (cwV 3 hts gw_X12_collide_328 rfl rfl rfl (by decide +kernel) ⟨Nat.le_of_ble_eq_true rfl, Nat.le_of_ble_eq_true rfl⟩) ⟨fun a U g mk q => by obtain ⟨q0, q1, qP, qK, qD⟩ := q; exact ⟨q0, q1, qP, va_K.moved (u := U) (U := U.calling g mk a) (Vm.Alike.refl U.vm) qK, qD⟩, va_recv hK hP (ci := 12) (q0 := 0) rfl rfl, fun U hU hW => ⟨rfl, by rw [hU], by rw [hU]; exact hP, va_K.moved hW.alike hK, hD.weaken (fun _ _ _ _ => trivial)⟩⟩ rfl rfl hl.1 rfl (lv_room (Nat.le_of_ble_eq_true rfl)) dX12_collisions_51 ⟨Nat.le_of_ble_eq_true rfl, Nat.le_of_ble_eq_true rfl⟩) hS (fun q _ h => hFc q h) hFc (fun r51 u t H1 locs ht hvm hw hB hz1 hk1 hS => ?_)
                replace hw : r51 = r51z := hw
                subst hw
                obtain ⟨hP1, hK1, hD1⟩ := hB
                rw [ht] at hP1
                obtain ⟨hP, hD⟩ := jn_all (w1 := (mW h0 kB kI kZ q (upd (upd (upd (upd (upd (upd (upd (upd g 23 c12_g23) 27 c12_g27) 30 c12_g30) 34 c12_g34) 36 c12_g36) 39 c12_g39) 51 c12_g51) 59 d37_g59) (upF (upF (upF (upF (upF (upF (upF (upF (upF (upF (upF (upF (upF (upF (upF (upF (upF F 22 c12_F22) 24 c12_F24) 25 c12_F25) 26 c12_F26) 28 c12_F28) 29 c12_F29) 31 c12_F31) 32 c12_F32) 33 c12_F33) 37 c12_F37) 38 c12_F38) 40 c12_F40) 41 c12_F41) 52 c12_F52) 53 c12_F53) 54 c12_F54) 58 d37_F58))) hFc hP1 hD1
                clear hFc hP1 hK1 hD1 hk1 hz1 ht hvm
                generalize H1 = H at hP hS ⊢
                have hP : va_P (dC, dI) vwCl (mW h0 kB kI kZ q (upd (upd (upd (upd (upd (upd (upd (upd g 23 c12_g23) 27 c12_g27) 30 c12_g30) 34 c12_g34) 36 c12_g36) 39 c12_g39) 51 c12_g51) 59 d37_g59) (upF (upF (upF (upF (upF (upF (upF (upF (upF (upF (upF (upF (upF (upF (upF (upF (upF F 22 c12_F22) 24 c12_F24) 25 c12_F25) 26 c12_F26) 28 c12_F28) 29 c12_F29) 31 c12_F31) 32 c12_F32) 33 c12_F33) 37 c12_F37) 38 c12_F38) 40 c12_F40) 41 c12_F41) 52 c12_F52) 53 c12_F53) 54 c12_F54) 58 d37_F58)) H := hP
                have hD : va_D A (mW h0 kB kI kZ q (upd (upd (upd (upd (upd (upd (upd (upd g 23 c12_g23) 27 c12_g27) 30 c12_g30) 34 c12_g34) 36 c12_g36) 39 c12_g39) 51 c12_g51) 59 d37_g59) (upF (upF (upF (upF (upF (upF (upF (upF (upF (upF (upF (upF (upF (upF (upF (upF (upF F 22 c12_F22) 24 c12_F24) 25 c12_F25) 26 c12_F26) 28 c12_F28) 29 c12_F29) 31 c12_F31) 32 c12_F32) 33 c12_F33) 37 c12_F37) 38 c12_F38) 40 c12_F40) 41 c12_F41) 52 c12_F52) 53 c12_F53) 54 c12_F54) 58 d37_F58)) := hD
                replace hr := jnS hr
                obtain ⟨j103, hj103, hr⟩ := hr
                have Jj103 : ∀ (x103_2 : Int32) (c103_g59 : Int32) (c103_F58 : (Nat → Int32)) (H : Heap) (locs : List Loc) (ls : Array Slot), j103 x103_2 c103_g59 c103_F58 = some (r, c_g23, c_g27, c_g30, c_g34, c_g36, c_g39, c_g51, c_g59, c_F22, c_F24, c_F25, c_F26, c_F28, c_F29, c_F31, c_F32, c_F33, c_F37, c_F38, c_F40, c_F41, c_F52, c_F53, c_F54, c_F58) → va_P (dC, dI) vwCl (mW h0 kB kI kZ q (upd (upd (upd (upd (upd (upd (upd (upd g 23 c12_g23) 27 c12_g27) 30 c12_g30) 34 c12_g34) 36 c12_g36) 39 c12_g39) 51 c12_g51) 59 c103_g59) (upF (upF (upF (upF (upF (upF (upF (upF (upF (upF (upF (upF (upF (upF (upF (upF (upF F 22 c12_F22) 24 c12_F24) 25 c12_F25) 26 c12_F26) 28 c12_F28) 29 c12_F29) 31 c12_F31) 32 c12_F32) 33 c12_F33) 37 c12_F37) 38 c12_F38) 40 c12_F40) 41 c12_F41) 52 c12_F52) 53 c12_F53) 54 c12_F54) 58 c103_F58)) H → va_D A (mW h0 kB kI kZ q (upd (upd (upd (upd (upd (upd (upd (upd g 23 c12_g23) 27 c12_g27) 30 c12_g30) 34 c12_g34) 36 c12_g36) 39 c12_g39) 51 c12_g51) 59 c103_g59) (upF (upF (upF (upF (upF (upF (upF (upF (upF (upF (upF (upF (upF (upF (upF (upF (upF F 22 c12_F22) 24 c12_F24) 25 c12_F25) 26 c12_F26) 28 c12_F28) 29 c12_F29) 31 c12_F31) 32 c12_F32) 33 c12_F33) 37 c12_F37) 38 c12_F38) 40 c12_F40) 41 c12_F41) 52 c12_F52) 53 c12_F53) 54 c12_F54) 58 c103_F58)) → va_S A s.heap H locs → lv_has ls 5 [(0, .ref h0), (1, .int p0), (2, .int x103_2), (3, .int y24_3), (4, .int y37_4)] → W p l e ({ frames := 48, cells := 0, slots := 0, locals := 1171 } : Room) s m args below meth c H locs 0 0 Q (F0 m 103 ls []) := by
                  intro x103_2 c103_g59 c103_F58 H locs ls hr hP hD hS hl
                  rw [hj103] at hr
                  refine lv_iinc (v := (y37_4 + 1)) (lv' := [(4, .int (y37_4 + 1)), (0, .ref h0), (1, .int p0), (2, .int x103_2), (3, .int y24_3)]) hx hb dX12_collisions_103 hl (k := 4) rfl rfl (by decide) rfl (fun ls hl => ?_)
                  refine lv_goto (tgt := 37) hx hb dX12_collisions_106 (by decide) ?_
                  exact ih37 x103_2 (y37_4 + 1) c103_g59 c103_F58 H _ ls hr hP hD hS (lv_sub hl [1, 2, 3, 4, 0] rfl)
                refine lv_if_ne (tgt := 60) hx hb dX12_collisions_54 (by decide) (fun c54 => ?_) (fun c54 => ?_)
                · replace hr := iteF c54 hr
                  refine lv_iinc (v := (y37_2 + 1)) (lv' := [(2, .int (y37_2 + 1)), (0, .ref h0), (1, .int p0), (3, .int y24_3), (4, .int y37_4)]) hx hb dX12_collisions_60 hl (k := 2) rfl rfl (by decide) rfl (fun ls hl => ?_)
                  refine lv_aload_n hx hb dX12_collisions_63 rfl (lv_at hl 1 rfl) ?_
                  refine va_get (D := (dC, dI)) (ci := 12) (v := .int d37_g59) (C := RX12) (T := TX12) (N := 71) hx hb hts inX12 hown hK hP 0 rfl rfl 59 (by decide) (hts (.fieldLink RX12 325 "SpellTurnerModel" "pairMany" "I") im_92) (fun _ h9 => h9) rfl dX12_collisions_64 ?_
                  refine lv_sipush (v := 200) hx hb dX12_collisions_67 (by decide +kernel) ?_
                  refine lv_icmp_ne (tgt := 76) hx hb dX12_collisions_70 (by decide) (fun c70 => ?_) (fun c70 => ?_)
                  · replace hr := iteF c70 hr
                    refine lv_aload_n hx hb dX12_collisions_76 rfl (lv_at hl 1 rfl) ?_
                    refine va_get (D := (dC, dI)) (ci := 12) (v := .ref (q 58)) (C := RX12) (T := TX12) (N := 71) hx hb hts inX12 hown hK hP 0 rfl rfl 58 (by decide) (hts (.fieldLink RX12 128 "SpellTurnerModel" "pairs" "[I") im_93) (fun _ h9 => h9) rfl dX12_collisions_77 ?_
                    refine lv_aload_n hx hb dX12_collisions_80 rfl (lv_at hl 1 rfl) ?_
                    refine va_get (D := (dC, dI)) (ci := 12) (v := .int d37_g59) (C := RX12) (T := TX12) (N := 71) hx hb hts inX12 hown hK hP 0 rfl rfl 59 (by decide) (hts (.fieldLink RX12 325 "SpellTurnerModel" "pairMany" "I") im_92) (fun _ h9 => h9) rfl dX12_collisions_81 ?_
                    refine lv_sipush (v := 1000) hx hb dX12_collisions_84 (by decide +kernel) ?_
                    refine lv_iload_n hx hb dX12_collisions_87 rfl (lv_at hl 3 rfl) ?_
                    refine lv_imul hx hb dX12_collisions_88 ?_
                    refine lv_iload hx hb dX12_collisions_89 (lv_at hl 4 rfl) ?_
                    refine lv_iadd hx hb dX12_collisions_91 ?_
                    replace hr := iteS hr
                    obtain ⟨hi92, hr⟩ := hr
                    refine va_iast (f := d37_F58) hx hb hK hP hD hS 38 1 rfl rfl (inbV hi92) dX12_collisions_92 (fun H locs hP hD hS => ?_)
                    obtain ⟨w92, ew92, hP, hD⟩ : ∃ w92 : Nat → Int32, w92 = (upd d37_F58 (Int32.toNatClampNeg d37_g59) ((1000 * y24_3) + y37_4)) ∧ va_P (dC, dI) vwCl (mW h0 kB kI kZ q (upd (upd (upd (upd (upd (upd (upd (upd g 23 c12_g23) 27 c12_g27) 30 c12_g30) 34 c12_g34) 36 c12_g36) 39 c12_g39) 51 c12_g51) 59 d37_g59) (upF (upF (upF (upF (upF (upF (upF (upF (upF (upF (upF (upF (upF (upF (upF (upF (upF F 22 c12_F22) 24 c12_F24) 25 c12_F25) 26 c12_F26) 28 c12_F28) 29 c12_F29) 31 c12_F31) 32 c12_F32) 33 c12_F33) 37 c12_F37) 38 c12_F38) 40 c12_F40) 41 c12_F41) 52 c12_F52) 53 c12_F53) 54 c12_F54) 58 w92)) H ∧ va_D A (mW h0 kB kI kZ q (upd (upd (upd (upd (upd (upd (upd (upd g 23 c12_g23) 27 c12_g27) 30 c12_g30) 34 c12_g34) 36 c12_g36) 39 c12_g39) 51 c12_g51) 59 d37_g59) (upF (upF (upF (upF (upF (upF (upF (upF (upF (upF (upF (upF (upF (upF (upF (upF (upF F 22 c12_F22) 24 c12_F24) 25 c12_F25) 26 c12_F26) 28 c12_F28) 29 c12_F29) 31 c12_F31) 32 c12_F32) 33 c12_F33) 37 c12_F37) 38 c12_F38) 40 c12_F40) 41 c12_F41) 52 c12_F52) 53 c12_F53) 54 c12_F54) 58 w92)) := ⟨(upd d37_F58 (Int32.toNatClampNeg d37_g59) ((1000 * y24_3) + y37_4)), rfl, by first | exact sP_F58 hP upF_same | exact sP_F58 hP rfl | exact hP, by first | exact sD_F58 hD upF_same | exact sD_F58 hD rfl | exact hD⟩
                    replace hr := vlS hr w92 ew92
                    clear ew92
                    refine lv_aload_n hx hb dX12_collisions_93 rfl (lv_at hl 1 rfl) ?_
                    refine lv_dup hx hb dX12_collisions_94 rfl ?_
                    refine va_get (D := (dC, dI)) (ci := 12) (v := .int d37_g59) (C := RX12) (T := TX12) (N := 71) hx hb hts inX12 hown hK hP 0 rfl rfl 59 (by decide) (hts (.fieldLink RX12 325 "SpellTurnerModel" "pairMany" "I") im_92) (fun _ h9 => h9) rfl dX12_collisions_95 ?_
                    refine lv_iconst (v := 1) hx hb dX12_collisions_98 (by decide +kernel) ?_
                    refine lv_iadd hx hb dX12_collisions_99 ?_
                    refine lv_topi (fun x100 ex100 => ?_)
                    replace hr := vlS hr x100 ex100
                    clear ex100
                    refine va_put (D := (dC, dI)) (ci := 12) (v := .int x100) (ty := .int) (C := RX12) (T := TX12) (N := 71) hx hb hts inX12 tyX12 tyX12_ok nmX12 hown hK hP hD hS 0 rfl rfl 59 (by decide) (hts (.fieldLink RX12 325 "SpellTurnerModel" "pairMany" "I") im_92) (fun _ h9 => h9) rfl (by decide +kernel) rfl rfl (Nat.le_of_ble_eq_true rfl) dX12_collisions_100 (fun H locs hP hD hS => ?_)
                    have hP : va_P (dC, dI) vwCl (mW h0 kB kI kZ q (upd (upd (upd (upd (upd (upd (upd (upd g 23 c12_g23) 27 c12_g27) 30 c12_g30) 34 c12_g34) 36 c12_g36) 39 c12_g39) 51 c12_g51) 59 x100) (upF (upF (upF (upF (upF (upF (upF (upF (upF (upF (upF (upF (upF (upF (upF (upF (upF F 22 c12_F22) 24 c12_F24) 25 c12_F25) 26 c12_F26) 28 c12_F28) 29 c12_F29) 31 c12_F31) 32 c12_F32) 33 c12_F33) 37 c12_F37) 38 c12_F38) 40 c12_F40) 41 c12_F41) 52 c12_F52) 53 c12_F53) 54 c12_F54) 58 w92)) H := by first | exact sP_g59 hP upd_same | exact sP_g59 hP rfl | exact hP
                    have hD : va_D A (mW h0 kB kI kZ q (upd (upd (upd (upd (upd (upd (upd (upd g 23 c12_g23) 27 c12_g27) 30 c12_g30) 34 c12_g34) 36 c12_g36) 39 c12_g39) 51 c12_g51) 59 x100) (upF (upF (upF (upF (upF (upF (upF (upF (upF (upF (upF (upF (upF (upF (upF (upF (upF F 22 c12_F22) 24 c12_F24) 25 c12_F25) 26 c12_F26) 28 c12_F28) 29 c12_F29) 31 c12_F31) 32 c12_F32) 33 c12_F33) 37 c12_F37) 38 c12_F38) 40 c12_F40) 41 c12_F41) 52 c12_F52) 53 c12_F53) 54 c12_F54) 58 w92)) := by first | exact sD_g59 hD upd_same | exact sD_g59 hD rfl | exact hD
                    exact Jj103 (y37_2 + 1) x100 w92 H _ ls hr hP hD hS (lv_sub hl [1, 2, 0, 3, 4] rfl)
                  · replace hr := iteT c70 hr
                    refine lv_goto (tgt := 103) hx hb dX12_collisions_73 (by decide) ?_
                    exact Jj103 (y37_2 + 1) d37_g59 d37_F58 H _ ls hr hP hD hS (lv_sub hl [1, 2, 0, 3, 4] rfl)
                · replace hr := iteT c54 hr
                  refine lv_goto (tgt := 103) hx hb dX12_collisions_57 (by decide) ?_
                  exact Jj103 y37_2 d37_g59 d37_F58 H _ ls hr hP hD hS (lv_sub hl [0, 1, 2, 3, 4] rfl)
          exact lp37 NN y24_2 x35 d24_g59 d24_F58 H _ ls hr hP hD hS (lv_sub hl [1, 2, 3, 4, 0] rfl)
    first | exact lp24 NN 0 0 0 (F 58) H _ ls hr (sP_eq (mW_cg (by repeat (first | with_reducible rfl | with_reducible refine upd_cg ?_ | refine Eq.trans ?_ (upd_id rfl))) (by repeat (first | with_reducible rfl | with_reducible refine upF_cg ?_ | refine Eq.trans ?_ (upF_id rfl)))) hP) (sD_eq (mW_cg (by repeat (first | with_reducible rfl | with_reducible refine upd_cg ?_ | refine Eq.trans ?_ (upd_id rfl))) (by repeat (first | with_reducible rfl | with_reducible refine upF_cg ?_ | refine Eq.trans ?_ (upF_id rfl)))) hD) hS (lv_sub hl [2, 3, 1, 0] rfl) | exact lp24 NN 0 0 0 (F 58) H _ ls hr hP hD hS (lv_sub hl [2, 3, 1, 0] rfl)
  · replace hr := iteT c5 hr
    refine lv_bipush (v := (-2)) hx hb dX12_collisions_8 (by decide +kernel) ?_
    first | exact K 10 ls _ _ _ _ _ _ _ _ _ _ _ _ _ _ _ _ _ _ _ _ _ _ _ _ _ _ H _ hr dX12_collisions_10 (sP_eq (mW_cg (by repeat (first | with_reducible rfl | with_reducible refine upd_cg ?_ | refine Eq.trans ?_ (upd_id rfl))) (by repeat (first | with_reducible rfl | with_reducible refine upF_cg ?_ | refine Eq.trans ?_ (upF_id rfl)))) hP) (sD_eq (mW_cg (by repeat (first | with_reducible rfl | with_reducible refine upd_cg ?_ | refine Eq.trans ?_ (upd_id rfl))) (by repeat (first | with_reducible rfl | with_reducible refine upF_cg ?_ | refine Eq.trans ?_ (upF_id rfl)))) hD) hS | exact K 10 ls _ _ _ _ _ _ _ _ _ _ _ _ _ _ _ _ _ _ _ _ _ _ _ _ _ _ H _ hr dX12_collisions_10 hP hD hS
set_option maxHeartbeats 4000000 in
set_option maxRecDepth 100000 in
theorem m_collisions (l : Launch) (dC : Nat → ClassId) (dI : Nat → Nat → Nat) (sz : Nat) (h0 : Nat) (kB kI kZ : ClassId) (q : Nat → Nat) (g : Nat → Int32) (F : Nat → Nat → Int32) (p0 : Int32) (r : Int32) (c_g23 : Int32) (c_g27 : Int32) (c_g30 : Int32) (c_g34 : Int32) (c_g36 : Int32) (c_g39 : Int32) (c_g51 : Int32) (c_g59 : Int32) (c_F22 : (Nat → Int32)) (c_F24 : (Nat → Int32)) (c_F25 : (Nat → Int32)) (c_F26 : (Nat → Int32)) (c_F28 : (Nat → Int32)) (c_F29 : (Nat → Int32)) (c_F31 : (Nat → Int32)) (c_F32 : (Nat → Int32)) (c_F33 : (Nat → Int32)) (c_F37 : (Nat → Int32)) (c_F38 : (Nat → Int32)) (c_F40 : (Nat → Int32)) (c_F41 : (Nat → Int32)) (c_F52 : (Nat → Int32)) (c_F53 : (Nat → Int32)) (c_F54 : (Nat → Int32)) (c_F58 : (Nat → Int32)) (hr : f_collisions g F p0 = some (r, c_g23, c_g27, c_g30, c_g34, c_g36, c_g39, c_g51, c_g59, c_F22, c_F24, c_F25, c_F26, c_F28, c_F29, c_F31, c_F32, c_F33, c_F37, c_F38, c_F40, c_F41, c_F52, c_F53, c_F54, c_F58)) : Met l yX12_collisions vmX12_collisions ({ frames := 48, cells := 0, slots := 0, locals := 1171 } : Room) (va_Pc [.ref h0, .int p0] (fun U => U.heap.size = sz ∧ va_P (dC, dI) vwCl (mW h0 kB kI kZ q g F) U.heap ∧ va_K (dC, dI) vwCl (mT kB kI kZ) U ∧ va_D (fun _ => True) (mW h0 kB kI kZ q g F))) (va_Qi (fun (rz : Int32) (_ : Unit) => rz = r) (fun _ t => va_P (dC, dI) vwCl (mW h0 kB kI kZ q (upd (upd (upd (upd (upd (upd (upd (upd g 23 c_g23) 27 c_g27) 30 c_g30) 34 c_g34) 36 c_g36) 39 c_g39) 51 c_g51) 59 c_g59) (upF (upF (upF (upF (upF (upF (upF (upF (upF (upF (upF (upF (upF (upF (upF (upF (upF F 22 c_F22) 24 c_F24) 25 c_F25) 26 c_F26) 28 c_F28) 29 c_F29) 31 c_F31) 32 c_F32) 33 c_F33) 37 c_F37) 38 c_F38) 40 c_F40) 41 c_F41) 52 c_F52) 53 c_F53) 54 c_F54) 58 c_F58)) t.heap ∧ va_K (dC, dI) vwCl (mT kB kI kZ) t ∧ va_D (va_A (mW h0 kB kI kZ q g F) sz) (mW h0 kB kI kZ q (upd (upd (upd (upd (upd (upd (upd (upd g 23 c_g23) 27 c_g27) 30 c_g30) 34 c_g34) 36 c_g36) 39 c_g39) 51 c_g51) 59 c_g59) (upF (upF (upF (upF (upF (upF (upF (upF (upF (upF (upF (upF (upF (upF (upF (upF (upF F 22 c_F22) 24 c_F24) 25 c_F25) 26 c_F26) 28 c_F28) 29 c_F29) 31 c_F31) 32 c_F32) 33 c_F33) 37 c_F37) 38 c_F38) 40 c_F40) 41 c_F41) 52 c_F52) 53 c_F53) 54 c_F54) 58 c_F58))) (va_A (mW h0 kB kI kZ q g F) sz)) 0 0 (va_A (mW h0 kB kI kZ q g F) sz) := by
  refine Met.ofW (cc := cX12_collisions) (maxL := 5) (ret := (some .int)) (by decide) rfl ?_
  intro p e s m args below meth c s₁ B hml hv
  obtain ⟨rfl, hsz, hP, hK, hD0⟩ := hv
  have hx := B.exec
  have hb := B.bytes
  have hrt := B.returns
  have hts := atoms_spec (ws := vmX12_collisions) B.pre
  have hown : s.vm.findClass RX12 = some m.cls := findClass_of_methodNamed B.named
  subst hsz
  have hD := hD0.self (sz := s.heap.size)
  generalize hAe : va_A (mW h0 kB kI kZ q g F) s.heap.size = A at hD ⊢
  have hA : ∀ q : Nat, s.heap.size ≤ q → A q := fun q h => by rw [← hAe]; exact Or.inr h
  have hS : va_S A s.heap s.heap [] := va_S.rf
  have hl := lv_entry ([.ref h0, .int p0]) (n := 5) (Nat.le_of_ble_eq_true rfl)
  rw [lg_entry_eq]
  generalize (lg_sl ([.ref h0, .int p0]) ++ List.replicate (5 - (lg_sl ([.ref h0, .int p0])).length) Slot.unset).toArray = ls at hl ⊢
  exact bm_collisions p0 r c_g23 c_g27 c_g30 c_g34 c_g36 c_g39 c_g51 c_g59 c_F22 c_F24 c_F25 c_F26 c_F28 c_F29 c_F31 c_F32 c_F33 c_F37 c_F38 c_F40 c_F41 c_F52 c_F53 c_F54 c_F58 hr hx hb hml hown hts hA hK hP hD hS hl (fun pc ls rz c_g23z c_g27z c_g30z c_g34z c_g36z c_g39z c_g51z c_g59z c_F22z c_F24z c_F25z c_F26z c_F28z c_F29z c_F31z c_F32z c_F33z c_F37z c_F38z c_F40z c_F41z c_F52z c_F53z c_F54z c_F58z H locs he hd hP hD hS => by cases he; exact W.iret (v := r) hx hb hrt (fun t ht hW => ⟨⟨r, (), rfl, rfl, by rw [ht]; exact hP, va_K.moved hW.alike hK, hD⟩, hS.F ht⟩) hS.2.2 hd)
set_option maxHeartbeats 4000000 in
set_option maxRecDepth 100000 in
theorem bm_sameBytes_49_49 {p : Program} {l : Launch} {e : Env} {s : State} {m : MethodId} {args : Array Value} {below : List Frame} {meth : Method} {c : Code} {Q : State → Prop} {A : Nat → Prop} {dC : Nat → ClassId} {dI : Nat → Nat → Nat} {h0 : Nat} {kB kI kZ : ClassId} {q : Nat → Nat} {g : Nat → Int32} {F : Nat → Nat → Int32} {H : Heap} {locs : List Loc} {ls : Array Slot} (p1 : Int32) (p2 : Int32) (p4 : Int32) (p5 : Int32) (r : Int32) (hr : f_sameBytes (F 49) 2400 p1 p2 (F 49) 2400 p4 p5 = some r) (hx : p.tables.exec = Jvm.exec) (hb : c.code = cX12_sameBytes) (hml : c.maxLocals = 7) (hown : s.vm.findClass RX12 = some m.cls) (hts : ∀ w ∈ vmX12_sameBytes, w.before args s = true) (hA : ∀ q : Nat, s.heap.size ≤ q → A q) (hK : va_K (dC, dI) vwCl (mT kB kI kZ) s) (hP : va_P (dC, dI) vwCl (mW h0 kB kI kZ q g F) H) (hD : va_D A (mW h0 kB kI kZ q g F)) (hS : va_S A s.heap H locs) (hl : lv_has ls 7 [(0, .ref (q 49)), (1, .int p1), (2, .int p2), (3, .ref (q 49)), (4, .int p4), (5, .int p5)])
    (K : ∀ (pc : Nat) (ls : Array Slot) (rz : Int32) (H : Heap) (locs : List Loc), some rz = some r → is01 rz → decode cX12_sameBytes pc = .ok (.ireturn, 1) → va_P (dC, dI) vwCl (mW h0 kB kI kZ q g F) H → va_D A (mW h0 kB kI kZ q g F) → va_S A s.heap H locs → W p l e ({ frames := 2, cells := 0, slots := 0, locals := 60 } : Room) s m args below meth c H locs 0 0 Q (F0 m pc ls [.int rz])) : W p l e ({ frames := 2, cells := 0, slots := 0, locals := 60 } : Room) s m args below meth c H locs 0 0 Q (F0 m 0 ls []) := by
  unfold f_sameBytes at hr
  refine lv_iload_n hx hb dX12_sameBytes_0 rfl (lv_at hl 2 rfl) ?_
  refine lv_iload hx hb dX12_sameBytes_1 (lv_at hl 5 rfl) ?_
  refine lv_icmp_eq (tgt := 8) hx hb dX12_sameBytes_3 (by decide) (fun c3 => ?_) (fun c3 => ?_)
  · replace hr := iteT c3 hr
    refine lv_iconst (v := 0) hx hb dX12_sameBytes_8 (by decide +kernel) ?_
    refine lv_istore (lv' := [(6, .int 0), (0, .ref (q 49)), (1, .int p1), (2, .int p2), (3, .ref (q 49)), (4, .int p4), (5, .int p5)]) hx hb dX12_sameBytes_9 hl (by decide) rfl (fun ls hl => ?_)
    have lp11 : ∀ (n11 : Nat) (y11_6 : Int32) (H : Heap) (locs : List Loc) (ls : Array Slot), L_sameBytes_11 (F 49) 2400 p1 p2 (F 49) 2400 p4 n11 y11_6 = some r → va_P (dC, dI) vwCl (mW h0 kB kI kZ q g F) H → va_D A (mW h0 kB kI kZ q g F) → va_S A s.heap H locs → lv_has ls 7 [(0, .ref (q 49)), (1, .int p1), (2, .int p2), (3, .ref (q 49)), (4, .int p4), (6, .int y11_6)] → W p l e ({ frames := 2, cells := 0, slots := 0, locals := 60 } : Room) s m args below meth c H locs 0 0 Q (F0 m 11 ls []) := by
      intro n11
      induction n11 with
      | zero => intro y11_6 H locs ls hr; exact nomatch (show none = some r from hr)
      | succ n11 ih11 =>
        intro y11_6 H locs ls hr hP hD hS hl
        replace hr : B_sameBytes_11 (F 49) 2400 p1 p2 (F 49) 2400 p4 (L_sameBytes_11 (F 49) 2400 p1 p2 (F 49) 2400 p4 n11) y11_6 = some r := hr
        unfold B_sameBytes_11 at hr
        refine lv_iload hx hb dX12_sameBytes_11 (lv_at hl 5 rfl) ?_
        refine lv_iload_n hx hb dX12_sameBytes_13 rfl (lv_at hl 2 rfl) ?_
        refine lv_icmp_ge (tgt := 41) hx hb dX12_sameBytes_14 (by decide) (fun c14 => ?_) (fun c14 => ?_)
        · replace hr := iteT c14 hr
          refine lv_iconst (v := 1) hx hb dX12_sameBytes_41 (by decide +kernel) ?_
          exact K 42 ls _ H _ hr (by decide) dX12_sameBytes_42 hP hD hS
        · replace hr := iteF c14 hr
          refine lv_aload_n hx hb dX12_sameBytes_17 rfl (lv_at hl 0 rfl) ?_
          refine lv_iload_n hx hb dX12_sameBytes_18 rfl (lv_at hl 1 rfl) ?_
          refine lv_iload hx hb dX12_sameBytes_19 (lv_at hl 5 rfl) ?_
          refine lv_iadd hx hb dX12_sameBytes_21 ?_
          replace hr := iteS hr
          obtain ⟨hi22, hr⟩ := hr
          refine va_bald (f := (F 49)) hx hb hK hP 31 0 rfl rfl (inbV hi22) dX12_sameBytes_22 ?_
          refine lv_aload_n hx hb dX12_sameBytes_23 rfl (lv_at hl 3 rfl) ?_
          refine lv_iload hx hb dX12_sameBytes_24 (lv_at hl 4 rfl) ?_
          refine lv_iload hx hb dX12_sameBytes_26 (lv_at hl 5 rfl) ?_
          refine lv_iadd hx hb dX12_sameBytes_28 ?_
          replace hr := iteS hr
          obtain ⟨hi29, hr⟩ := hr
          refine va_bald (f := (F 49)) hx hb hK hP 31 0 rfl rfl (inbV hi29) dX12_sameBytes_29 ?_
          refine lv_icmp_eq (tgt := 35) hx hb dX12_sameBytes_30 (by decide) (fun c30 => ?_) (fun c30 => ?_)
          · replace hr := iteT c30 hr
            refine lv_iinc (v := (y11_6 + 1)) (lv' := [(6, .int (y11_6 + 1)), (0, .ref (q 49)), (1, .int p1), (2, .int p2), (3, .ref (q 49)), (4, .int p4)]) hx hb dX12_sameBytes_35 hl (k := 5) rfl rfl (by decide) rfl (fun ls hl => ?_)
            refine lv_goto (tgt := 11) hx hb dX12_sameBytes_38 (by decide) ?_
            exact ih11 (y11_6 + 1) H _ ls hr hP hD hS (lv_sub hl [1, 2, 3, 4, 5, 0] rfl)
          · replace hr := iteF c30 hr
            refine lv_iconst (v := 0) hx hb dX12_sameBytes_33 (by decide +kernel) ?_
            exact K 34 ls _ H _ hr (by decide) dX12_sameBytes_34 hP hD hS
    exact lp11 NN 0 H _ ls hr hP hD hS (lv_sub hl [1, 2, 3, 4, 5, 0] rfl)
  · replace hr := iteF c3 hr
    refine lv_iconst (v := 0) hx hb dX12_sameBytes_6 (by decide +kernel) ?_
    exact K 7 ls _ H _ hr (by decide) dX12_sameBytes_7 hP hD hS
set_option maxHeartbeats 4000000 in
set_option maxRecDepth 100000 in
theorem m_sameBytes_49_49 (l : Launch) (dC : Nat → ClassId) (dI : Nat → Nat → Nat) (sz : Nat) (h0 : Nat) (kB kI kZ : ClassId) (q : Nat → Nat) (g : Nat → Int32) (F : Nat → Nat → Int32) (p1 : Int32) (p2 : Int32) (p4 : Int32) (p5 : Int32) (r : Int32) (hr : f_sameBytes (F 49) 2400 p1 p2 (F 49) 2400 p4 p5 = some r) : Met l yX12_sameBytes vmX12_sameBytes ({ frames := 2, cells := 0, slots := 0, locals := 60 } : Room) (va_Pc [.ref (q 49), .int p1, .int p2, .ref (q 49), .int p4, .int p5] (fun U => U.heap.size = sz ∧ va_P (dC, dI) vwCl (mW h0 kB kI kZ q g F) U.heap ∧ va_K (dC, dI) vwCl (mT kB kI kZ) U ∧ va_D (fun _ => True) (mW h0 kB kI kZ q g F))) (va_Qi (fun (rz : Int32) (_ : Unit) => rz = r) (fun _ t => va_P (dC, dI) vwCl (mW h0 kB kI kZ q g F) t.heap ∧ va_K (dC, dI) vwCl (mT kB kI kZ) t ∧ va_D (va_A (mW h0 kB kI kZ q g F) sz) (mW h0 kB kI kZ q g F)) (va_A (mW h0 kB kI kZ q g F) sz)) 0 0 (va_A (mW h0 kB kI kZ q g F) sz) := by
  refine Met.ofW (cc := cX12_sameBytes) (maxL := 7) (ret := (some .boolean)) (by decide) rfl ?_
  intro p e s m args below meth c s₁ B hml hv
  obtain ⟨rfl, hsz, hP, hK, hD0⟩ := hv
  have hx := B.exec
  have hb := B.bytes
  have hrt := B.returns
  have hts := atoms_spec (ws := vmX12_sameBytes) B.pre
  have hown : s.vm.findClass RX12 = some m.cls := findClass_of_methodNamed B.named
  subst hsz
  have hD := hD0.self (sz := s.heap.size)
  generalize hAe : va_A (mW h0 kB kI kZ q g F) s.heap.size = A at hD ⊢
  have hA : ∀ q : Nat, s.heap.size ≤ q → A q := fun q h => by rw [← hAe]; exact Or.inr h
  have hS : va_S A s.heap s.heap [] := va_S.rf
  have hl := lv_entry ([.ref (q 49), .int p1, .int p2, .ref (q 49), .int p4, .int p5]) (n := 7) (Nat.le_of_ble_eq_true rfl)
  rw [lg_entry_eq]
  generalize (lg_sl ([.ref (q 49), .int p1, .int p2, .ref (q 49), .int p4, .int p5]) ++ List.replicate (7 - (lg_sl ([.ref (q 49), .int p1, .int p2, .ref (q 49), .int p4, .int p5])).length) Slot.unset).toArray = ls at hl ⊢
  exact bm_sameBytes_49_49 p1 p2 p4 p5 r hr hx hb hml hown hts hA hK hP hD hS hl (fun pc ls rz H locs he hz hd hP hD hS => by cases he; exact W.zret (v := r) hx hb hrt (z_nb hz) (fun t ht hW => ⟨⟨r, (), rfl, rfl, by rw [ht]; exact hP, va_K.moved hW.alike hK, hD⟩, hS.F ht⟩) hS.2.2 hd)
set_option maxHeartbeats 4000000 in
set_option maxRecDepth 100000 in
theorem bm_rhyme_49_49 {p : Program} {l : Launch} {e : Env} {s : State} {m : MethodId} {args : Array Value} {below : List Frame} {meth : Method} {c : Code} {Q : State → Prop} {A : Nat → Prop} {dC : Nat → ClassId} {dI : Nat → Nat → Nat} {h0 : Nat} {kB kI kZ : ClassId} {q : Nat → Nat} {g : Nat → Int32} {F : Nat → Nat → Int32} {H : Heap} {locs : List Loc} {ls : Array Slot} (p1 : Int32) (p2 : Int32) (p4 : Int32) (p5 : Int32) (r : Int32) (hr : f_rhyme (F 49) 2400 p1 p2 (F 49) 2400 p4 p5 = some r) (hx : p.tables.exec = Jvm.exec) (hb : c.code = cX12_rhyme) (hml : c.maxLocals = 6) (hown : s.vm.findClass RX12 = some m.cls) (hts : ∀ w ∈ vmX12_rhyme, w.before args s = true) (hA : ∀ q : Nat, s.heap.size ≤ q → A q) (hK : va_K (dC, dI) vwCl (mT kB kI kZ) s) (hP : va_P (dC, dI) vwCl (mW h0 kB kI kZ q g F) H) (hD : va_D A (mW h0 kB kI kZ q g F)) (hS : va_S A s.heap H locs) (hl : lv_has ls 6 [(0, .ref (q 49)), (1, .int p1), (2, .int p2), (3, .ref (q 49)), (4, .int p4), (5, .int p5)])
    (K : ∀ (pc : Nat) (ls : Array Slot) (rz : Int32) (H : Heap) (locs : List Loc), some rz = some r → is01 rz → decode cX12_rhyme pc = .ok (.ireturn, 1) → va_P (dC, dI) vwCl (mW h0 kB kI kZ q g F) H → va_D A (mW h0 kB kI kZ q g F) → va_S A s.heap H locs → W p l e ({ frames := 3, cells := 0, slots := 0, locals := 86 } : Room) s m args below meth c H locs 0 0 Q (F0 m pc ls [.int rz])) : W p l e ({ frames := 3, cells := 0, slots := 0, locals := 86 } : Room) s m args below meth c H locs 0 0 Q (F0 m 0 ls []) := by
  unfold f_rhyme at hr
  refine lv_iload_n hx hb dX12_rhyme_0 rfl (lv_at hl 2 rfl) ?_
  refine lv_iconst (v := 2) hx hb dX12_rhyme_1 (by decide +kernel) ?_
  replace hr := jnS hr
  obtain ⟨j38, hj38, hr⟩ := hr
  have Jj38 : ∀ (t38_0 : Int32) (H : Heap) (locs : List Loc) (ls : Array Slot), j38 t38_0 = some r → va_P (dC, dI) vwCl (mW h0 kB kI kZ q g F) H → va_D A (mW h0 kB kI kZ q g F) → va_S A s.heap H locs → lv_has ls 6 [] → W p l e ({ frames := 3, cells := 0, slots := 0, locals := 86 } : Room) s m args below meth c H locs 0 0 Q (F0 m 38 ls [.int t38_0]) := by
    intro t38_0 H locs ls hr hP hD hS hl
    rw [hj38] at hr
    replace hr := iteS hr
    obtain ⟨hz38, hr⟩ := hr
    exact K 38 ls _ H _ hr hz38 dX12_rhyme_38 hP hD hS
  replace hr := jnS hr
  obtain ⟨j37, hj37, hr⟩ := hr
  have Jj37 : ∀ (H : Heap) (locs : List Loc) (ls : Array Slot), j37 () = some r → va_P (dC, dI) vwCl (mW h0 kB kI kZ q g F) H → va_D A (mW h0 kB kI kZ q g F) → va_S A s.heap H locs → lv_has ls 6 [] → W p l e ({ frames := 3, cells := 0, slots := 0, locals := 86 } : Room) s m args below meth c H locs 0 0 Q (F0 m 37 ls []) := by
    intro H locs ls hr hP hD hS hl
    rw [hj37] at hr
    refine lv_iconst (v := 0) hx hb dX12_rhyme_37 (by decide +kernel) ?_
    exact Jj38 0 H _ ls hr hP hD hS (lv_sub hl [] rfl)
  refine lv_icmp_le (tgt := 37) hx hb dX12_rhyme_2 (by decide) (fun c2 => ?_) (fun c2 => ?_)
  · replace hr := iteT c2 hr
    exact Jj37 H _ ls hr hP hD hS (lv_sub hl [] rfl)
  · replace hr := iteF c2 hr
    refine lv_iload hx hb dX12_rhyme_5 (lv_at hl 5 rfl) ?_
    refine lv_iconst (v := 2) hx hb dX12_rhyme_7 (by decide +kernel) ?_
    refine lv_icmp_le (tgt := 37) hx hb dX12_rhyme_8 (by decide) (fun c8 => ?_) (fun c8 => ?_)
    · replace hr := iteT c8 hr
      exact Jj37 H _ ls hr hP hD hS (lv_sub hl [] rfl)
    · replace hr := iteF c8 hr
      refine lv_aload_n hx hb dX12_rhyme_11 rfl (lv_at hl 0 rfl) ?_
      refine lv_iload_n hx hb dX12_rhyme_12 rfl (lv_at hl 1 rfl) ?_
      refine lv_iload_n hx hb dX12_rhyme_13 rfl (lv_at hl 2 rfl) ?_
      refine lv_iadd hx hb dX12_rhyme_14 ?_
      refine lv_iconst (v := 3) hx hb dX12_rhyme_15 (by decide +kernel) ?_
      refine lv_isub hx hb dX12_rhyme_16 ?_
      refine lv_iconst (v := 3) hx hb dX12_rhyme_17 (by decide +kernel) ?_
      refine lv_aload_n hx hb dX12_rhyme_18 rfl (lv_at hl 3 rfl) ?_
      refine lv_iload hx hb dX12_rhyme_19 (lv_at hl 4 rfl) ?_
      refine lv_iload hx hb dX12_rhyme_21 (lv_at hl 5 rfl) ?_
      refine lv_iadd hx hb dX12_rhyme_23 ?_
      refine lv_iconst (v := 3) hx hb dX12_rhyme_24 (by decide +kernel) ?_
      refine lv_isub hx hb dX12_rhyme_25 ?_
      refine lv_iconst (v := 3) hx hb dX12_rhyme_26 (by decide +kernel) ?_
      replace hr := b1S hr
      obtain ⟨r27z, hc27, hr⟩ := hr
      have hFc := fr_all hD hS hA
      refine va_calli (va_runS (As := [.ref (q 49), .int ((p1 + p2) - 3), .int 3, .ref (q 49), .int ((p4 + p5) - 3), .int 3]) (rest := []) ⟨hx, hb, hml, hown, hts⟩ (m_sameBytes_49_49 l dC dI H.size h0 kB kI kZ q g F ((p1 + p2) - 3) 3 ((p4 + p5) - 3) 3 r27z hc27) (va_cwS 6 hts gw_X12_sameBytes_273 rfl rfl rfl (by decide +kernel) ⟨Nat.le_of_ble_eq_true rfl, Nat.le_of_ble_eq_true rfl⟩) ⟨fun a U g mk q => by obtain ⟨q0, q1, qP, qK, qD⟩ := q; exact ⟨q0, q1, qP, va_K.moved (u := U) (U := U.calling g mk a) (Vm.Alike.refl U.vm) qK, qD⟩, fun U hU hW => ⟨rfl, by rw [hU], by rw [hU]; exact hP, va_K.moved hW.alike hK, hD.weaken (fun _ _ _ _ => trivial)⟩⟩ rfl rfl hl.1 rfl (lv_room (Nat.le_of_ble_eq_true rfl)) dX12_rhyme_27 ⟨Nat.le_of_ble_eq_true rfl, Nat.le_of_ble_eq_true rfl⟩) hS (fun q _ h => hFc q h) hFc (fun r27 u t H1 locs ht hvm hw hB hz1 hk1 hS => ?_)
      replace hw : r27 = r27z := hw
      subst hw
      obtain ⟨hP1, hK1, hD1⟩ := hB
      rw [ht] at hP1
      obtain ⟨hP, hD⟩ := jn_all (w1 := (mW h0 kB kI kZ q g F)) hFc hP1 hD1
      clear hFc hP1 hK1 hD1 hk1 hz1 ht hvm
      generalize H1 = H at hP hS ⊢
      have hP : va_P (dC, dI) vwCl (mW h0 kB kI kZ q g F) H := hP
      have hD : va_D A (mW h0 kB kI kZ q g F) := hD
      refine lv_if_eq (tgt := 37) hx hb dX12_rhyme_30 (by decide) (fun c30 => ?_) (fun c30 => ?_)
      · replace hr := iteT c30 hr
        exact Jj37 H _ ls hr hP hD hS (lv_sub hl [] rfl)
      · replace hr := iteF c30 hr
        refine lv_iconst (v := 1) hx hb dX12_rhyme_33 (by decide +kernel) ?_
        refine lv_goto (tgt := 38) hx hb dX12_rhyme_34 (by decide) ?_
        exact Jj38 1 H _ ls hr hP hD hS (lv_sub hl [] rfl)
set_option maxHeartbeats 4000000 in
set_option maxRecDepth 100000 in
theorem m_rhyme_49_49 (l : Launch) (dC : Nat → ClassId) (dI : Nat → Nat → Nat) (sz : Nat) (h0 : Nat) (kB kI kZ : ClassId) (q : Nat → Nat) (g : Nat → Int32) (F : Nat → Nat → Int32) (p1 : Int32) (p2 : Int32) (p4 : Int32) (p5 : Int32) (r : Int32) (hr : f_rhyme (F 49) 2400 p1 p2 (F 49) 2400 p4 p5 = some r) : Met l yX12_rhyme vmX12_rhyme ({ frames := 3, cells := 0, slots := 0, locals := 86 } : Room) (va_Pc [.ref (q 49), .int p1, .int p2, .ref (q 49), .int p4, .int p5] (fun U => U.heap.size = sz ∧ va_P (dC, dI) vwCl (mW h0 kB kI kZ q g F) U.heap ∧ va_K (dC, dI) vwCl (mT kB kI kZ) U ∧ va_D (fun _ => True) (mW h0 kB kI kZ q g F))) (va_Qi (fun (rz : Int32) (_ : Unit) => rz = r) (fun _ t => va_P (dC, dI) vwCl (mW h0 kB kI kZ q g F) t.heap ∧ va_K (dC, dI) vwCl (mT kB kI kZ) t ∧ va_D (va_A (mW h0 kB kI kZ q g F) sz) (mW h0 kB kI kZ q g F)) (va_A (mW h0 kB kI kZ q g F) sz)) 0 0 (va_A (mW h0 kB kI kZ q g F) sz) := by
  refine Met.ofW (cc := cX12_rhyme) (maxL := 6) (ret := (some .boolean)) (by decide) rfl ?_
  intro p e s m args below meth c s₁ B hml hv
  obtain ⟨rfl, hsz, hP, hK, hD0⟩ := hv
  have hx := B.exec
  have hb := B.bytes
  have hrt := B.returns
  have hts := atoms_spec (ws := vmX12_rhyme) B.pre
  have hown : s.vm.findClass RX12 = some m.cls := findClass_of_methodNamed B.named
  subst hsz
  have hD := hD0.self (sz := s.heap.size)
  generalize hAe : va_A (mW h0 kB kI kZ q g F) s.heap.size = A at hD ⊢
  have hA : ∀ q : Nat, s.heap.size ≤ q → A q := fun q h => by rw [← hAe]; exact Or.inr h
  have hS : va_S A s.heap s.heap [] := va_S.rf
  have hl := lv_entry ([.ref (q 49), .int p1, .int p2, .ref (q 49), .int p4, .int p5]) (n := 6) (Nat.le_of_ble_eq_true rfl)
  rw [lg_entry_eq]
  generalize (lg_sl ([.ref (q 49), .int p1, .int p2, .ref (q 49), .int p4, .int p5]) ++ List.replicate (6 - (lg_sl ([.ref (q 49), .int p1, .int p2, .ref (q 49), .int p4, .int p5])).length) Slot.unset).toArray = ls at hl ⊢
  exact bm_rhyme_49_49 p1 p2 p4 p5 r hr hx hb hml hown hts hA hK hP hD hS hl (fun pc ls rz H locs he hz hd hP hD hS => by cases he; exact W.zret (v := r) hx hb hrt (z_nb hz) (fun t ht hW => ⟨⟨r, (), rfl, rfl, by rw [ht]; exact hP, va_K.moved hW.alike hK, hD⟩, hS.F ht⟩) hS.2.2 hd)
set_option maxHeartbeats 4000000 in
set_option maxRecDepth 100000 in
theorem bm_rhymes {p : Program} {l : Launch} {e : Env} {s : State} {m : MethodId} {args : Array Value} {below : List Frame} {meth : Method} {c : Code} {Q : State → Prop} {A : Nat → Prop} {dC : Nat → ClassId} {dI : Nat → Nat → Nat} {h0 : Nat} {kB kI kZ : ClassId} {q : Nat → Nat} {g : Nat → Int32} {F : Nat → Nat → Int32} {H : Heap} {locs : List Loc} {ls : Array Slot} (p0 : Int32) (r : Int32) (c_g23 : Int32) (c_g27 : Int32) (c_g30 : Int32) (c_g34 : Int32) (c_g36 : Int32) (c_g39 : Int32) (c_g51 : Int32) (c_F22 : (Nat → Int32)) (c_F24 : (Nat → Int32)) (c_F25 : (Nat → Int32)) (c_F26 : (Nat → Int32)) (c_F28 : (Nat → Int32)) (c_F29 : (Nat → Int32)) (c_F31 : (Nat → Int32)) (c_F32 : (Nat → Int32)) (c_F33 : (Nat → Int32)) (c_F37 : (Nat → Int32)) (c_F38 : (Nat → Int32)) (c_F40 : (Nat → Int32)) (c_F41 : (Nat → Int32)) (c_F52 : (Nat → Int32)) (c_F53 : (Nat → Int32)) (c_F54 : (Nat → Int32)) (hr : f_rhymes g F p0 = some (r, c_g23, c_g27, c_g30, c_g34, c_g36, c_g39, c_g51, c_F22, c_F24, c_F25, c_F26, c_F28, c_F29, c_F31, c_F32, c_F33, c_F37, c_F38, c_F40, c_F41, c_F52, c_F53, c_F54)) (hx : p.tables.exec = Jvm.exec) (hb : c.code = cX12_rhymes) (hml : c.maxLocals = 5) (hown : s.vm.findClass RX12 = some m.cls) (hts : ∀ w ∈ vmX12_rhymes, w.before args s = true) (hA : ∀ q : Nat, s.heap.size ≤ q → A q) (hK : va_K (dC, dI) vwCl (mT kB kI kZ) s) (hP : va_P (dC, dI) vwCl (mW h0 kB kI kZ q g F) H) (hD : va_D A (mW h0 kB kI kZ q g F)) (hS : va_S A s.heap H locs) (hl : lv_has ls 5 [(0, .ref h0), (1, .int p0)])
    (K : ∀ (pc : Nat) (ls : Array Slot) (rz : Int32) (c_g23z : Int32) (c_g27z : Int32) (c_g30z : Int32) (c_g34z : Int32) (c_g36z : Int32) (c_g39z : Int32) (c_g51z : Int32) (c_F22z : (Nat → Int32)) (c_F24z : (Nat → Int32)) (c_F25z : (Nat → Int32)) (c_F26z : (Nat → Int32)) (c_F28z : (Nat → Int32)) (c_F29z : (Nat → Int32)) (c_F31z : (Nat → Int32)) (c_F32z : (Nat → Int32)) (c_F33z : (Nat → Int32)) (c_F37z : (Nat → Int32)) (c_F38z : (Nat → Int32)) (c_F40z : (Nat → Int32)) (c_F41z : (Nat → Int32)) (c_F52z : (Nat → Int32)) (c_F53z : (Nat → Int32)) (c_F54z : (Nat → Int32)) (H : Heap) (locs : List Loc), some (rz, c_g23z, c_g27z, c_g30z, c_g34z, c_g36z, c_g39z, c_g51z, c_F22z, c_F24z, c_F25z, c_F26z, c_F28z, c_F29z, c_F31z, c_F32z, c_F33z, c_F37z, c_F38z, c_F40z, c_F41z, c_F52z, c_F53z, c_F54z) = some (r, c_g23, c_g27, c_g30, c_g34, c_g36, c_g39, c_g51, c_F22, c_F24, c_F25, c_F26, c_F28, c_F29, c_F31, c_F32, c_F33, c_F37, c_F38, c_F40, c_F41, c_F52, c_F53, c_F54) → decode cX12_rhymes pc = .ok (.ireturn, 1) → va_P (dC, dI) vwCl (mW h0 kB kI kZ q (upd (upd (upd (upd (upd (upd (upd g 23 c_g23z) 27 c_g27z) 30 c_g30z) 34 c_g34z) 36 c_g36z) 39 c_g39z) 51 c_g51z) (upF (upF (upF (upF (upF (upF (upF (upF (upF (upF (upF (upF (upF (upF (upF (upF F 22 c_F22z) 24 c_F24z) 25 c_F25z) 26 c_F26z) 28 c_F28z) 29 c_F29z) 31 c_F31z) 32 c_F32z) 33 c_F33z) 37 c_F37z) 38 c_F38z) 40 c_F40z) 41 c_F41z) 52 c_F52z) 53 c_F53z) 54 c_F54z)) H → va_D A (mW h0 kB kI kZ q (upd (upd (upd (upd (upd (upd (upd g 23 c_g23z) 27 c_g27z) 30 c_g30z) 34 c_g34z) 36 c_g36z) 39 c_g39z) 51 c_g51z) (upF (upF (upF (upF (upF (upF (upF (upF (upF (upF (upF (upF (upF (upF (upF (upF F 22 c_F22z) 24 c_F24z) 25 c_F25z) 26 c_F26z) 28 c_F28z) 29 c_F29z) 31 c_F31z) 32 c_F32z) 33 c_F33z) 37 c_F37z) 38 c_F38z) 40 c_F40z) 41 c_F41z) 52 c_F52z) 53 c_F53z) 54 c_F54z)) → va_S A s.heap H locs → W p l e ({ frames := 48, cells := 0, slots := 0, locals := 1171 } : Room) s m args below meth c H locs 0 0 Q (F0 m pc ls [.int rz])) : W p l e ({ frames := 48, cells := 0, slots := 0, locals := 1171 } : Room) s m args below meth c H locs 0 0 Q (F0 m 0 ls []) := by
  unfold f_rhymes at hr
  refine lv_aload_n hx hb dX12_rhymes_0 rfl (lv_at hl 0 rfl) ?_
  refine lv_iload_n hx hb dX12_rhymes_1 rfl (lv_at hl 1 rfl) ?_
  replace hr := b1S hr
  obtain ⟨r2z, hc2, hr⟩ := hr
  have hFc := fr_all hD hS hA
  refine va_calli (va_runV (As := [.int p0]) (rest := []) ⟨hx, hb, hml, hown, hts⟩ (m_isStage l dC dI H.size h0 kB kI kZ q g F p0 r2z hc2) (cwV 1 hts gw_X12_isStage_300 rfl rfl rfl (by decide +kernel) ⟨Nat.le_of_ble_eq_true rfl, Nat.le_of_ble_eq_true rfl⟩) ⟨fun a U g mk q => by obtain ⟨q0, q1, qP, qK, qD⟩ := q; exact ⟨q0, q1, qP, va_K.moved (u := U) (U := U.calling g mk a) (Vm.Alike.refl U.vm) qK, qD⟩, va_recv hK hP (ci := 12) (q0 := 0) rfl rfl, fun U hU hW => ⟨rfl, by rw [hU], by rw [hU]; exact hP, va_K.moved hW.alike hK, hD.weaken (fun _ _ _ _ => trivial)⟩⟩ rfl rfl hl.1 rfl (lv_room (Nat.le_of_ble_eq_true rfl)) dX12_rhymes_2 ⟨Nat.le_of_ble_eq_true rfl, Nat.le_of_ble_eq_true rfl⟩) hS (fun q _ h => hFc q h) hFc (fun r2 u t H1 locs ht hvm hw hB hz1 hk1 hS => ?_)
  replace hw : r2 = r2z := hw
  subst hw
  obtain ⟨hP1, hK1, hD1⟩ := hB
  rw [ht] at hP1
  obtain ⟨hP, hD⟩ := jn_all (w1 := (mW h0 kB kI kZ q g F)) hFc hP1 hD1
  clear hFc hP1 hK1 hD1 hk1 hz1 ht hvm
  generalize H1 = H at hP hS ⊢
  have hP : va_P (dC, dI) vwCl (mW h0 kB kI kZ q g F) H := hP
  have hD : va_D A (mW h0 kB kI kZ q g F) := hD
  refine lv_if_ne (tgt := 11) hx hb dX12_rhymes_5 (by decide) (fun c5 => ?_) (fun c5 => ?_)
  · replace hr := iteF c5 hr
    refine lv_aload_n hx hb dX12_rhymes_11 rfl (lv_at hl 0 rfl) ?_
    replace hr := b23S hr
    obtain ⟨c12_g23, c12_g27, c12_g30, c12_g34, c12_g36, c12_g39, c12_g51, c12_F22, c12_F24, c12_F25, c12_F26, c12_F28, c12_F29, c12_F31, c12_F32, c12_F33, c12_F37, c12_F38, c12_F40, c12_F41, c12_F52, c12_F53, c12_F54, hc12, hr⟩ := hr
    have hFc := fr_all hD hS hA
    refine va_callv (va_runV (As := []) (rest := []) ⟨hx, hb, hml, hown, hts⟩ (m_make l dC dI H.size h0 kB kI kZ q g F c12_g23 c12_g27 c12_g30 c12_g34 c12_g36 c12_g39 c12_g51 c12_F22 c12_F24 c12_F25 c12_F26 c12_F28 c12_F29 c12_F31 c12_F32 c12_F33 c12_F37 c12_F38 c12_F40 c12_F41 c12_F52 c12_F53 c12_F54 hc12) (cwV 0 hts gw_X12_make_315 rfl rfl rfl (by decide +kernel) ⟨Nat.le_of_ble_eq_true rfl, Nat.le_of_ble_eq_true rfl⟩) ⟨fun a U g mk q => by obtain ⟨q0, q1, qP, qK, qD⟩ := q; exact ⟨q0, q1, qP, va_K.moved (u := U) (U := U.calling g mk a) (Vm.Alike.refl U.vm) qK, qD⟩, va_recv hK hP (ci := 12) (q0 := 0) rfl rfl, fun U hU hW => ⟨rfl, by rw [hU], by rw [hU]; exact hP, va_K.moved hW.alike hK, hD.weaken (fun _ _ _ _ => trivial)⟩⟩ rfl rfl hl.1 rfl (lv_room (Nat.le_of_ble_eq_true rfl)) dX12_rhymes_12 ⟨Nat.le_of_ble_eq_true rfl, Nat.le_of_ble_eq_true rfl⟩) hS (fun q _ h => hFc q h) hFc (fun u t H1 locs ht hvm hw hB hz1 hk1 hS => ?_)
    obtain ⟨hP1, hK1, hD1⟩ := hB
    rw [ht] at hP1
    obtain ⟨hP, hD⟩ := jn_all (w1 := (mW h0 kB kI kZ q (upd (upd (upd (upd (upd (upd (upd g 23 c12_g23) 27 c12_g27) 30 c12_g30) 34 c12_g34) 36 c12_g36) 39 c12_g39) 51 c12_g51) (upF (upF (upF (upF (upF (upF (upF (upF (upF (upF (upF (upF (upF (upF (upF (upF F 22 c12_F22) 24 c12_F24) 25 c12_F25) 26 c12_F26) 28 c12_F28) 29 c12_F29) 31 c12_F31) 32 c12_F32) 33 c12_F33) 37 c12_F37) 38 c12_F38) 40 c12_F40) 41 c12_F41) 52 c12_F52) 53 c12_F53) 54 c12_F54))) hFc hP1 hD1
    clear hFc hP1 hK1 hD1 hk1 hz1 ht hvm
    generalize H1 = H at hP hS ⊢
    have hP : va_P (dC, dI) vwCl (mW h0 kB kI kZ q (upd (upd (upd (upd (upd (upd (upd g 23 c12_g23) 27 c12_g27) 30 c12_g30) 34 c12_g34) 36 c12_g36) 39 c12_g39) 51 c12_g51) (upF (upF (upF (upF (upF (upF (upF (upF (upF (upF (upF (upF (upF (upF (upF (upF F 22 c12_F22) 24 c12_F24) 25 c12_F25) 26 c12_F26) 28 c12_F28) 29 c12_F29) 31 c12_F31) 32 c12_F32) 33 c12_F33) 37 c12_F37) 38 c12_F38) 40 c12_F40) 41 c12_F41) 52 c12_F52) 53 c12_F53) 54 c12_F54)) H := hP
    have hD : va_D A (mW h0 kB kI kZ q (upd (upd (upd (upd (upd (upd (upd g 23 c12_g23) 27 c12_g27) 30 c12_g30) 34 c12_g34) 36 c12_g36) 39 c12_g39) 51 c12_g51) (upF (upF (upF (upF (upF (upF (upF (upF (upF (upF (upF (upF (upF (upF (upF (upF F 22 c12_F22) 24 c12_F24) 25 c12_F25) 26 c12_F26) 28 c12_F28) 29 c12_F29) 31 c12_F31) 32 c12_F32) 33 c12_F33) 37 c12_F37) 38 c12_F38) 40 c12_F40) 41 c12_F41) 52 c12_F52) 53 c12_F53) 54 c12_F54)) := hD
    refine lv_iconst (v := 0) hx hb dX12_rhymes_15 (by decide +kernel) ?_
    refine lv_istore_n (lv' := [(2, .int 0), (0, .ref h0), (1, .int p0)]) hx hb dX12_rhymes_16 rfl hl (by decide) rfl (fun ls hl => ?_)
    refine lv_iconst (v := 0) hx hb dX12_rhymes_17 (by decide +kernel) ?_
    refine lv_istore_n (lv' := [(3, .int 0), (2, .int 0), (0, .ref h0), (1, .int p0)]) hx hb dX12_rhymes_18 rfl hl (by decide) rfl (fun ls hl => ?_)
    have lp19 : ∀ (n19 : Nat) (y19_2 : Int32) (y19_3 : Int32) (H : Heap) (locs : List Loc) (ls : Array Slot), L_rhymes_19 g F p0 c12_g23 c12_g27 c12_g30 c12_g34 c12_g36 c12_g39 c12_g51 c12_F22 c12_F24 c12_F25 c12_F26 c12_F28 c12_F29 c12_F31 c12_F32 c12_F33 c12_F37 c12_F38 c12_F40 c12_F41 c12_F52 c12_F53 c12_F54 n19 y19_2 y19_3 = some (r, c_g23, c_g27, c_g30, c_g34, c_g36, c_g39, c_g51, c_F22, c_F24, c_F25, c_F26, c_F28, c_F29, c_F31, c_F32, c_F33, c_F37, c_F38, c_F40, c_F41, c_F52, c_F53, c_F54) → va_P (dC, dI) vwCl (mW h0 kB kI kZ q (upd (upd (upd (upd (upd (upd (upd g 23 c12_g23) 27 c12_g27) 30 c12_g30) 34 c12_g34) 36 c12_g36) 39 c12_g39) 51 c12_g51) (upF (upF (upF (upF (upF (upF (upF (upF (upF (upF (upF (upF (upF (upF (upF (upF F 22 c12_F22) 24 c12_F24) 25 c12_F25) 26 c12_F26) 28 c12_F28) 29 c12_F29) 31 c12_F31) 32 c12_F32) 33 c12_F33) 37 c12_F37) 38 c12_F38) 40 c12_F40) 41 c12_F41) 52 c12_F52) 53 c12_F53) 54 c12_F54)) H → va_D A (mW h0 kB kI kZ q (upd (upd (upd (upd (upd (upd (upd g 23 c12_g23) 27 c12_g27) 30 c12_g30) 34 c12_g34) 36 c12_g36) 39 c12_g39) 51 c12_g51) (upF (upF (upF (upF (upF (upF (upF (upF (upF (upF (upF (upF (upF (upF (upF (upF F 22 c12_F22) 24 c12_F24) 25 c12_F25) 26 c12_F26) 28 c12_F28) 29 c12_F29) 31 c12_F31) 32 c12_F32) 33 c12_F33) 37 c12_F37) 38 c12_F38) 40 c12_F40) 41 c12_F41) 52 c12_F52) 53 c12_F53) 54 c12_F54)) → va_S A s.heap H locs → lv_has ls 5 [(0, .ref h0), (1, .int p0), (2, .int y19_2), (3, .int y19_3)] → W p l e ({ frames := 48, cells := 0, slots := 0, locals := 1171 } : Room) s m args below meth c H locs 0 0 Q (F0 m 19 ls []) := by
      intro n19
      induction n19 with
      | zero => intro y19_2 y19_3 H locs ls hr; exact nomatch (show none = some (r, c_g23, c_g27, c_g30, c_g34, c_g36, c_g39, c_g51, c_F22, c_F24, c_F25, c_F26, c_F28, c_F29, c_F31, c_F32, c_F33, c_F37, c_F38, c_F40, c_F41, c_F52, c_F53, c_F54) from hr)
      | succ n19 ih19 =>
        intro y19_2 y19_3 H locs ls hr hP hD hS hl
        replace hr : B_rhymes_19 g F p0 c12_g23 c12_g27 c12_g30 c12_g34 c12_g36 c12_g39 c12_g51 c12_F22 c12_F24 c12_F25 c12_F26 c12_F28 c12_F29 c12_F31 c12_F32 c12_F33 c12_F37 c12_F38 c12_F40 c12_F41 c12_F52 c12_F53 c12_F54 (L_rhymes_19 g F p0 c12_g23 c12_g27 c12_g30 c12_g34 c12_g36 c12_g39 c12_g51 c12_F22 c12_F24 c12_F25 c12_F26 c12_F28 c12_F29 c12_F31 c12_F32 c12_F33 c12_F37 c12_F38 c12_F40 c12_F41 c12_F52 c12_F53 c12_F54 n19) y19_2 y19_3 = some (r, c_g23, c_g27, c_g30, c_g34, c_g36, c_g39, c_g51, c_F22, c_F24, c_F25, c_F26, c_F28, c_F29, c_F31, c_F32, c_F33, c_F37, c_F38, c_F40, c_F41, c_F52, c_F53, c_F54) := hr
        unfold B_rhymes_19 at hr
        refine lv_iload_n hx hb dX12_rhymes_19 rfl (lv_at hl 3 rfl) ?_
        refine lv_aload_n hx hb dX12_rhymes_20 rfl (lv_at hl 0 rfl) ?_
        refine va_get (D := (dC, dI)) (ci := 12) (v := .int (g 48)) (C := RX12) (T := TX12) (N := 71) hx hb hts inX12 hown hK hP 0 rfl rfl 48 (by decide) (hts (.fieldLink RX12 312 "SpellTurnerModel" "words" "I") im_85) (fun _ h9 => h9) rfl dX12_rhymes_21 ?_
        refine lv_icmp_ge (tgt := 108) hx hb dX12_rhymes_24 (by decide) (fun c24 => ?_) (fun c24 => ?_)
        · replace hr := iteT c24 hr
          refine lv_iload_n hx hb dX12_rhymes_108 rfl (lv_at hl 2 rfl) ?_
          first | exact K 109 ls _ _ _ _ _ _ _ _ _ _ _ _ _ _ _ _ _ _ _ _ _ _ _ _ H _ hr dX12_rhymes_109 (sP_eq (mW_cg (by repeat (first | with_reducible rfl | with_reducible refine upd_cg ?_ | refine Eq.trans ?_ (upd_id rfl))) (by repeat (first | with_reducible rfl | with_reducible refine upF_cg ?_ | refine Eq.trans ?_ (upF_id rfl)))) hP) (sD_eq (mW_cg (by repeat (first | with_reducible rfl | with_reducible refine upd_cg ?_ | refine Eq.trans ?_ (upd_id rfl))) (by repeat (first | with_reducible rfl | with_reducible refine upF_cg ?_ | refine Eq.trans ?_ (upF_id rfl)))) hD) hS | exact K 109 ls _ _ _ _ _ _ _ _ _ _ _ _ _ _ _ _ _ _ _ _ _ _ _ _ H _ hr dX12_rhymes_109 hP hD hS
        · replace hr := iteF c24 hr
          refine lv_iload_n hx hb dX12_rhymes_27 rfl (lv_at hl 3 rfl) ?_
          refine lv_iconst (v := 1) hx hb dX12_rhymes_28 (by decide +kernel) ?_
          refine lv_iadd hx hb dX12_rhymes_29 ?_
          refine lv_topi (fun x30 ex30 => ?_)
          replace hr := vlS hr x30 ex30
          clear ex30
          refine lv_istore (lv' := [(4, .int x30), (0, .ref h0), (1, .int p0), (2, .int y19_2), (3, .int y19_3)]) hx hb dX12_rhymes_30 hl (by decide) rfl (fun ls hl => ?_)
          replace hr := jnS hr
          obtain ⟨k102, hk102, hr⟩ := hr
          have Jk102 : ∀ (x102_2 : Int32) (H : Heap) (locs : List Loc) (ls : Array Slot), k102 x102_2 = some (r, c_g23, c_g27, c_g30, c_g34, c_g36, c_g39, c_g51, c_F22, c_F24, c_F25, c_F26, c_F28, c_F29, c_F31, c_F32, c_F33, c_F37, c_F38, c_F40, c_F41, c_F52, c_F53, c_F54) → va_P (dC, dI) vwCl (mW h0 kB kI kZ q (upd (upd (upd (upd (upd (upd (upd g 23 c12_g23) 27 c12_g27) 30 c12_g30) 34 c12_g34) 36 c12_g36) 39 c12_g39) 51 c12_g51) (upF (upF (upF (upF (upF (upF (upF (upF (upF (upF (upF (upF (upF (upF (upF (upF F 22 c12_F22) 24 c12_F24) 25 c12_F25) 26 c12_F26) 28 c12_F28) 29 c12_F29) 31 c12_F31) 32 c12_F32) 33 c12_F33) 37 c12_F37) 38 c12_F38) 40 c12_F40) 41 c12_F41) 52 c12_F52) 53 c12_F53) 54 c12_F54)) H → va_D A (mW h0 kB kI kZ q (upd (upd (upd (upd (upd (upd (upd g 23 c12_g23) 27 c12_g27) 30 c12_g30) 34 c12_g34) 36 c12_g36) 39 c12_g39) 51 c12_g51) (upF (upF (upF (upF (upF (upF (upF (upF (upF (upF (upF (upF (upF (upF (upF (upF F 22 c12_F22) 24 c12_F24) 25 c12_F25) 26 c12_F26) 28 c12_F28) 29 c12_F29) 31 c12_F31) 32 c12_F32) 33 c12_F33) 37 c12_F37) 38 c12_F38) 40 c12_F40) 41 c12_F41) 52 c12_F52) 53 c12_F53) 54 c12_F54)) → va_S A s.heap H locs → lv_has ls 5 [(0, .ref h0), (1, .int p0), (2, .int x102_2), (3, .int y19_3)] → W p l e ({ frames := 48, cells := 0, slots := 0, locals := 1171 } : Room) s m args below meth c H locs 0 0 Q (F0 m 102 ls []) := by
            intro x102_2 H locs ls hr hP hD hS hl
            rw [hk102] at hr
            refine lv_iinc (v := (y19_3 + 1)) (lv' := [(3, .int (y19_3 + 1)), (0, .ref h0), (1, .int p0), (2, .int x102_2)]) hx hb dX12_rhymes_102 hl (k := 3) rfl rfl (by decide) rfl (fun ls hl => ?_)
            refine lv_goto (tgt := 19) hx hb dX12_rhymes_105 (by decide) ?_
            exact ih19 x102_2 (y19_3 + 1) H _ ls hr hP hD hS (lv_sub hl [1, 2, 3, 0] rfl)
          have lp32 : ∀ (n32 : Nat) (y32_2 : Int32) (y32_4 : Int32) (H : Heap) (locs : List Loc) (ls : Array Slot), L_rhymes_32 g F p0 c12_g23 c12_g27 c12_g30 c12_g34 c12_g36 c12_g39 c12_g51 c12_F22 c12_F24 c12_F25 c12_F26 c12_F28 c12_F29 c12_F31 c12_F32 c12_F33 c12_F37 c12_F38 c12_F40 c12_F41 c12_F52 c12_F53 c12_F54 y19_3 k102 n32 y32_2 y32_4 = some (r, c_g23, c_g27, c_g30, c_g34, c_g36, c_g39, c_g51, c_F22, c_F24, c_F25, c_F26, c_F28, c_F29, c_F31, c_F32, c_F33, c_F37, c_F38, c_F40, c_F41, c_F52, c_F53, c_F54) → va_P (dC, dI) vwCl (mW h0 kB kI kZ q (upd (upd (upd (upd (upd (upd (upd g 23 c12_g23) 27 c12_g27) 30 c12_g30) 34 c12_g34) 36 c12_g36) 39 c12_g39) 51 c12_g51) (upF (upF (upF (upF (upF (upF (upF (upF (upF (upF (upF (upF (upF (upF (upF (upF F 22 c12_F22) 24 c12_F24) 25 c12_F25) 26 c12_F26) 28 c12_F28) 29 c12_F29) 31 c12_F31) 32 c12_F32) 33 c12_F33) 37 c12_F37) 38 c12_F38) 40 c12_F40) 41 c12_F41) 52 c12_F52) 53 c12_F53) 54 c12_F54)) H → va_D A (mW h0 kB kI kZ q (upd (upd (upd (upd (upd (upd (upd g 23 c12_g23) 27 c12_g27) 30 c12_g30) 34 c12_g34) 36 c12_g36) 39 c12_g39) 51 c12_g51) (upF (upF (upF (upF (upF (upF (upF (upF (upF (upF (upF (upF (upF (upF (upF (upF F 22 c12_F22) 24 c12_F24) 25 c12_F25) 26 c12_F26) 28 c12_F28) 29 c12_F29) 31 c12_F31) 32 c12_F32) 33 c12_F33) 37 c12_F37) 38 c12_F38) 40 c12_F40) 41 c12_F41) 52 c12_F52) 53 c12_F53) 54 c12_F54)) → va_S A s.heap H locs → lv_has ls 5 [(0, .ref h0), (1, .int p0), (2, .int y32_2), (3, .int y19_3), (4, .int y32_4)] → W p l e ({ frames := 48, cells := 0, slots := 0, locals := 1171 } : Room) s m args below meth c H locs 0 0 Q (F0 m 32 ls []) := by
            intro n32
            induction n32 with
            | zero => intro y32_2 y32_4 H locs ls hr; exact nomatch (show none = some (r, c_g23, c_g27, c_g30, c_g34, c_g36, c_g39, c_g51, c_F22, c_F24, c_F25, c_F26, c_F28, c_F29, c_F31, c_F32, c_F33, c_F37, c_F38, c_F40, c_F41, c_F52, c_F53, c_F54) from hr)
            | succ n32 ih32 =>
              intro y32_2 y32_4 H locs ls hr hP hD hS hl
              replace hr : B_rhymes_32 g F p0 c12_g23 c12_g27 c12_g30 c12_g34 c12_g36 c12_g39 c12_g51 c12_F22 c12_F24 c12_F25 c12_F26 c12_F28 c12_F29 c12_F31 c12_F32 c12_F33 c12_F37 c12_F38 c12_F40 c12_F41 c12_F52 c12_F53 c12_F54 y19_3 k102 (L_rhymes_32 g F p0 c12_g23 c12_g27 c12_g30 c12_g34 c12_g36 c12_g39 c12_g51 c12_F22 c12_F24 c12_F25 c12_F26 c12_F28 c12_F29 c12_F31 c12_F32 c12_F33 c12_F37 c12_F38 c12_F40 c12_F41 c12_F52 c12_F53 c12_F54 y19_3 k102 n32) y32_2 y32_4 = some (r, c_g23, c_g27, c_g30, c_g34, c_g36, c_g39, c_g51, c_F22, c_F24, c_F25, c_F26, c_F28, c_F29, c_F31, c_F32, c_F33, c_F37, c_F38, c_F40, c_F41, c_F52, c_F53, c_F54) := hr
              unfold B_rhymes_32 at hr
              refine lv_iload hx hb dX12_rhymes_32 (lv_at hl 4 rfl) ?_
              refine lv_aload_n hx hb dX12_rhymes_34 rfl (lv_at hl 0 rfl) ?_
              refine va_get (D := (dC, dI)) (ci := 12) (v := .int (g 48)) (C := RX12) (T := TX12) (N := 71) hx hb hts inX12 hown hK hP 0 rfl rfl 48 (by decide) (hts (.fieldLink RX12 312 "SpellTurnerModel" "words" "I") im_85) (fun _ h9 => h9) rfl dX12_rhymes_35 ?_
              refine lv_icmp_ge (tgt := 102) hx hb dX12_rhymes_38 (by decide) (fun c38 => ?_) (fun c38 => ?_)
              · replace hr := iteT c38 hr
                exact Jk102 y32_2 H _ ls hr hP hD hS (lv_sub hl [0, 1, 2, 3] rfl)
              · replace hr := iteF c38 hr
                refine lv_iload_n hx hb dX12_rhymes_41 rfl (lv_at hl 2 rfl) ?_
                refine lv_aload_n hx hb dX12_rhymes_42 rfl (lv_at hl 0 rfl) ?_
                refine va_get (D := (dC, dI)) (ci := 12) (v := .ref (q 49)) (C := RX12) (T := TX12) (N := 71) hx hb hts inX12 hown hK hP 0 rfl rfl 49 (by decide) (hts (.fieldLink RX12 106 "SpellTurnerModel" "bookText" "[B") im_87) (fun _ h9 => h9) rfl dX12_rhymes_43 ?_
                refine lv_bipush (v := 24) hx hb dX12_rhymes_46 (by decide +kernel) ?_
                refine lv_iload_n hx hb dX12_rhymes_48 rfl (lv_at hl 3 rfl) ?_
                refine lv_imul hx hb dX12_rhymes_49 ?_
                refine lv_aload_n hx hb dX12_rhymes_50 rfl (lv_at hl 0 rfl) ?_
                refine va_get (D := (dC, dI)) (ci := 12) (v := .ref (q 50)) (C := RX12) (T := TX12) (N := 71) hx hb hts inX12 hown hK hP 0 rfl rfl 50 (by decide) (hts (.fieldLink RX12 109 "SpellTurnerModel" "bookSize" "[I") im_86) (fun _ h9 => h9) rfl dX12_rhymes_51 ?_
                refine lv_iload_n hx hb dX12_rhymes_54 rfl (lv_at hl 3 rfl) ?_
                replace hr := iteS hr
                obtain ⟨hi55, hr⟩ := hr
                refine va_iald (f := (F 50)) hx hb hK hP 32 1 rfl rfl (inbV hi55) dX12_rhymes_55 ?_
                refine lv_aload_n hx hb dX12_rhymes_56 rfl (lv_at hl 0 rfl) ?_
                refine va_get (D := (dC, dI)) (ci := 12) (v := .ref (q 49)) (C := RX12) (T := TX12) (N := 71) hx hb hts inX12 hown hK hP 0 rfl rfl 49 (by decide) (hts (.fieldLink RX12 106 "SpellTurnerModel" "bookText" "[B") im_87) (fun _ h9 => h9) rfl dX12_rhymes_57 ?_
                refine lv_bipush (v := 24) hx hb dX12_rhymes_60 (by decide +kernel) ?_
                refine lv_iload hx hb dX12_rhymes_62 (lv_at hl 4 rfl) ?_
                refine lv_imul hx hb dX12_rhymes_64 ?_
                refine lv_aload_n hx hb dX12_rhymes_65 rfl (lv_at hl 0 rfl) ?_
                refine va_get (D := (dC, dI)) (ci := 12) (v := .ref (q 50)) (C := RX12) (T := TX12) (N := 71) hx hb hts inX12 hown hK hP 0 rfl rfl 50 (by decide) (hts (.fieldLink RX12 109 "SpellTurnerModel" "bookSize" "[I") im_86) (fun _ h9 => h9) rfl dX12_rhymes_66 ?_
                refine lv_iload hx hb dX12_rhymes_69 (lv_at hl 4 rfl) ?_
                replace hr := iteS hr
                obtain ⟨hi71, hr⟩ := hr
                refine va_iald (f := (F 50)) hx hb hK hP 32 1 rfl rfl (inbV hi71) dX12_rhymes_71 ?_
                replace hr := b1S hr
                obtain ⟨r72z, hc72, hr⟩ := hr
                have hFc := fr_all hD hS hA
                refine va_calli (va_runS (As := [.ref (q 49), .int (24 * y19_3), .int ((F 50) (Int32.toNatClampNeg y19_3)), .ref (q 49), .int (24 * y32_4), .int ((F 50) (Int32.toNatClampNeg y32_4))]) (rest := [.int y32_2]) ⟨hx, hb, hml, hown, hts⟩ (m_rhyme_49_49 l dC dI H.size h0 kB kI kZ q (upd (upd (upd (upd (upd (upd (upd g 23 c12_g23) 27 c12_g27) 30 c12_g30) 34 c12_g34) 36 c12_g36) 39 c12_g39) 51 c12_g51) (upF (upF (upF (upF (upF (upF (upF (upF (upF (upF (upF (upF (upF (upF (upF (upF F 22 c12_F22) 24 c12_F24) 25 c12_F25) 26 c12_F26) 28 c12_F28) 29 c12_F29) 31 c12_F31) 32 c12_F32) 33 c12_F33) 37 c12_F37) 38 c12_F38) 40 c12_F40) 41 c12_F41) 52 c12_F52) 53 c12_F53) 54 c12_F54) (24 * y19_3) ((F 50) (Int32.toNatClampNeg y19_3)) (24 * y32_4) ((F 50) (Int32.toNatClampNeg y32_4)) r72z hc72) (va_cwS 6 hts gw_X12_rhyme_331 rfl rfl rfl (by decide +kernel) ⟨Nat.le_of_ble_eq_true rfl, Nat.le_of_ble_eq_true rfl⟩) ⟨fun a U g mk q => by obtain ⟨q0, q1, qP, qK, qD⟩ := q; exact ⟨q0, q1, qP, va_K.moved (u := U) (U := U.calling g mk a) (Vm.Alike.refl U.vm) qK, qD⟩, fun U hU hW => ⟨rfl, by rw [hU], by rw [hU]; exact hP, va_K.moved hW.alike hK, hD.weaken (fun _ _ _ _ => trivial)⟩⟩ rfl rfl hl.1 rfl (lv_room (Nat.le_of_ble_eq_true rfl)) dX12_rhymes_72 ⟨Nat.le_of_ble_eq_true rfl, Nat.le_of_ble_eq_true rfl⟩) hS (fun q _ h => hFc q h) hFc (fun r72 u t H1 locs ht hvm hw hB hz1 hk1 hS => ?_)
                replace hw : r72 = r72z := hw
                subst hw
                obtain ⟨hP1, hK1, hD1⟩ := hB
                rw [ht] at hP1
                obtain ⟨hP, hD⟩ := jn_all (w1 := (mW h0 kB kI kZ q (upd (upd (upd (upd (upd (upd (upd g 23 c12_g23) 27 c12_g27) 30 c12_g30) 34 c12_g34) 36 c12_g36) 39 c12_g39) 51 c12_g51) (upF (upF (upF (upF (upF (upF (upF (upF (upF (upF (upF (upF (upF (upF (upF (upF F 22 c12_F22) 24 c12_F24) 25 c12_F25) 26 c12_F26) 28 c12_F28) 29 c12_F29) 31 c12_F31) 32 c12_F32) 33 c12_F33) 37 c12_F37) 38 c12_F38) 40 c12_F40) 41 c12_F41) 52 c12_F52) 53 c12_F53) 54 c12_F54))) hFc hP1 hD1
                clear hFc hP1 hK1 hD1 hk1 hz1 ht hvm
                generalize H1 = H at hP hS ⊢
                have hP : va_P (dC, dI) vwCl (mW h0 kB kI kZ q (upd (upd (upd (upd (upd (upd (upd g 23 c12_g23) 27 c12_g27) 30 c12_g30) 34 c12_g34) 36 c12_g36) 39 c12_g39) 51 c12_g51) (upF (upF (upF (upF (upF (upF (upF (upF (upF (upF (upF (upF (upF (upF (upF (upF F 22 c12_F22) 24 c12_F24) 25 c12_F25) 26 c12_F26) 28 c12_F28) 29 c12_F29) 31 c12_F31) 32 c12_F32) 33 c12_F33) 37 c12_F37) 38 c12_F38) 40 c12_F40) 41 c12_F41) 52 c12_F52) 53 c12_F53) 54 c12_F54)) H := hP
                have hD : va_D A (mW h0 kB kI kZ q (upd (upd (upd (upd (upd (upd (upd g 23 c12_g23) 27 c12_g27) 30 c12_g30) 34 c12_g34) 36 c12_g36) 39 c12_g39) 51 c12_g51) (upF (upF (upF (upF (upF (upF (upF (upF (upF (upF (upF (upF (upF (upF (upF (upF F 22 c12_F22) 24 c12_F24) 25 c12_F25) 26 c12_F26) 28 c12_F28) 29 c12_F29) 31 c12_F31) 32 c12_F32) 33 c12_F33) 37 c12_F37) 38 c12_F38) 40 c12_F40) 41 c12_F41) 52 c12_F52) 53 c12_F53) 54 c12_F54)) := hD
                replace hr := jnS hr
                obtain ⟨j94, hj94, hr⟩ := hr
                have Jj94 : ∀ (t94_0 : Int32) (H : Heap) (locs : List Loc) (ls : Array Slot), j94 t94_0 = some (r, c_g23, c_g27, c_g30, c_g34, c_g36, c_g39, c_g51, c_F22, c_F24, c_F25, c_F26, c_F28, c_F29, c_F31, c_F32, c_F33, c_F37, c_F38, c_F40, c_F41, c_F52, c_F53, c_F54) → va_P (dC, dI) vwCl (mW h0 kB kI kZ q (upd (upd (upd (upd (upd (upd (upd g 23 c12_g23) 27 c12_g27) 30 c12_g30) 34 c12_g34) 36 c12_g36) 39 c12_g39) 51 c12_g51) (upF (upF (upF (upF (upF (upF (upF (upF (upF (upF (upF (upF (upF (upF (upF (upF F 22 c12_F22) 24 c12_F24) 25 c12_F25) 26 c12_F26) 28 c12_F28) 29 c12_F29) 31 c12_F31) 32 c12_F32) 33 c12_F33) 37 c12_F37) 38 c12_F38) 40 c12_F40) 41 c12_F41) 52 c12_F52) 53 c12_F53) 54 c12_F54)) H → va_D A (mW h0 kB kI kZ q (upd (upd (upd (upd (upd (upd (upd g 23 c12_g23) 27 c12_g27) 30 c12_g30) 34 c12_g34) 36 c12_g36) 39 c12_g39) 51 c12_g51) (upF (upF (upF (upF (upF (upF (upF (upF (upF (upF (upF (upF (upF (upF (upF (upF F 22 c12_F22) 24 c12_F24) 25 c12_F25) 26 c12_F26) 28 c12_F28) 29 c12_F29) 31 c12_F31) 32 c12_F32) 33 c12_F33) 37 c12_F37) 38 c12_F38) 40 c12_F40) 41 c12_F41) 52 c12_F52) 53 c12_F53) 54 c12_F54)) → va_S A s.heap H locs → lv_has ls 5 [(0, .ref h0), (1, .int p0), (3, .int y19_3), (4, .int y32_4)] → W p l e ({ frames := 48, cells := 0, slots := 0, locals := 1171 } : Room) s m args below meth c H locs 0 0 Q (F0 m 94 ls [.int t94_0, .int y32_2]) := by
                  intro t94_0 H locs ls hr hP hD hS hl
                  rw [hj94] at hr
                  refine lv_iadd hx hb dX12_rhymes_94 ?_
                  refine lv_topi (fun x95 ex95 => ?_)
                  replace hr := vlS hr x95 ex95
                  clear ex95
                  refine lv_istore_n (lv' := [(2, .int x95), (0, .ref h0), (1, .int p0), (3, .int y19_3), (4, .int y32_4)]) hx hb dX12_rhymes_95 rfl hl (by decide) rfl (fun ls hl => ?_)
                  refine lv_iinc (v := (y32_4 + 1)) (lv' := [(4, .int (y32_4 + 1)), (2, .int x95), (0, .ref h0), (1, .int p0), (3, .int y19_3)]) hx hb dX12_rhymes_96 hl (k := 4) rfl rfl (by decide) rfl (fun ls hl => ?_)
                  refine lv_goto (tgt := 32) hx hb dX12_rhymes_99 (by decide) ?_
                  exact ih32 x95 (y32_4 + 1) H _ ls hr hP hD hS (lv_sub hl [2, 3, 1, 4, 0] rfl)
                replace hr := jnS hr
                obtain ⟨j93, hj93, hr⟩ := hr
                have Jj93 : ∀ (H : Heap) (locs : List Loc) (ls : Array Slot), j93 () = some (r, c_g23, c_g27, c_g30, c_g34, c_g36, c_g39, c_g51, c_F22, c_F24, c_F25, c_F26, c_F28, c_F29, c_F31, c_F32, c_F33, c_F37, c_F38, c_F40, c_F41, c_F52, c_F53, c_F54) → va_P (dC, dI) vwCl (mW h0 kB kI kZ q (upd (upd (upd (upd (upd (upd (upd g 23 c12_g23) 27 c12_g27) 30 c12_g30) 34 c12_g34) 36 c12_g36) 39 c12_g39) 51 c12_g51) (upF (upF (upF (upF (upF (upF (upF (upF (upF (upF (upF (upF (upF (upF (upF (upF F 22 c12_F22) 24 c12_F24) 25 c12_F25) 26 c12_F26) 28 c12_F28) 29 c12_F29) 31 c12_F31) 32 c12_F32) 33 c12_F33) 37 c12_F37) 38 c12_F38) 40 c12_F40) 41 c12_F41) 52 c12_F52) 53 c12_F53) 54 c12_F54)) H → va_D A (mW h0 kB kI kZ q (upd (upd (upd (upd (upd (upd (upd g 23 c12_g23) 27 c12_g27) 30 c12_g30) 34 c12_g34) 36 c12_g36) 39 c12_g39) 51 c12_g51) (upF (upF (upF (upF (upF (upF (upF (upF (upF (upF (upF (upF (upF (upF (upF (upF F 22 c12_F22) 24 c12_F24) 25 c12_F25) 26 c12_F26) 28 c12_F28) 29 c12_F29) 31 c12_F31) 32 c12_F32) 33 c12_F33) 37 c12_F37) 38 c12_F38) 40 c12_F40) 41 c12_F41) 52 c12_F52) 53 c12_F53) 54 c12_F54)) → va_S A s.heap H locs → lv_has ls 5 [(0, .ref h0), (1, .int p0), (3, .int y19_3), (4, .int y32_4)] → W p l e ({ frames := 48, cells := 0, slots := 0, locals := 1171 } : Room) s m args below meth c H locs 0 0 Q (F0 m 93 ls [.int y32_2]) := by
                  intro H locs ls hr hP hD hS hl
                  rw [hj93] at hr
                  refine lv_iconst (v := 0) hx hb dX12_rhymes_93 (by decide +kernel) ?_
                  exact Jj94 0 H _ ls hr hP hD hS (lv_sub hl [0, 1, 2, 3] rfl)
                refine lv_if_eq (tgt := 93) hx hb dX12_rhymes_75 (by decide) (fun c75 => ?_) (fun c75 => ?_)
                · replace hr := iteT c75 hr
                  exact Jj93 H _ ls hr hP hD hS (lv_sub hl [0, 1, 3, 4] rfl)
                · replace hr := iteF c75 hr
                  refine lv_aload_n hx hb dX12_rhymes_78 rfl (lv_at hl 0 rfl) ?_
                  refine lv_iload_n hx hb dX12_rhymes_79 rfl (lv_at hl 3 rfl) ?_
                  refine lv_iload hx hb dX12_rhymes_80 (lv_at hl 4 rfl) ?_
                  refine lv_iload_n hx hb dX12_rhymes_82 rfl (lv_at hl 1 rfl) ?_
                  replace hr := b1S hr
                  obtain ⟨r83z, hc83, hr⟩ := hr
                  have hFc := fr_all hD hS hA
                  refine va_calli (va_runV (As := [.int y19_3, .int y32_4, .int p0]) (rest := [.int y32_2]) ⟨hx, hb, hml, hown, hts⟩ (m_rhymeAt l dC dI H.size h0 kB kI kZ q (upd (upd (upd (upd (upd (upd (upd g 23 c12_g23) 27 c12_g27) 30 c12_g30) 34 c12_g34) 36 c12_g36) 39 c12_g39) 51 c12_g51) (upF (upF (upF (upF (upF (upF (upF (upF (upF (upF (upF (upF (upF (upF (upF (upF F 22 c12_F22) 24 c12_F24) 25 c12_F25) 26 c12_F26) 28 c12_F28) 29 c12_F29) 31 c12_F31) 32 c12_F32) 33 c12_F33) 37 c12_F37) 38 c12_F38) 40 c12_F40) 41 c12_F41) 52 c12_F52) 53 c12_F53) 54 c12_F54) y19_3 y32_4 p0 r83z hc83) (cwV 3 hts gw_X12_rhymeAt_334 rfl rfl rfl (by decide +kernel) ⟨Nat.le_of_ble_eq_true rfl, Nat.le_of_ble_eq_true rfl⟩) ⟨fun a U g mk q => by obtain ⟨q0, q1, qP, qK, qD⟩ := q; exact ⟨q0, q1, qP, va_K.moved (u := U) (U := U.calling g mk a) (Vm.Alike.refl U.vm) qK, qD⟩, va_recv hK hP (ci := 12) (q0 := 0) rfl rfl, fun U hU hW => ⟨rfl, by rw [hU], by rw [hU]; exact hP, va_K.moved hW.alike hK, hD.weaken (fun _ _ _ _ => trivial)⟩⟩ rfl rfl hl.1 rfl (lv_room (Nat.le_of_ble_eq_true rfl)) dX12_rhymes_83 ⟨Nat.le_of_ble_eq_true rfl, Nat.le_of_ble_eq_true rfl⟩) hS (fun q _ h => hFc q h) hFc (fun r83 u t H1 locs ht hvm hw hB hz1 hk1 hS => ?_)
                  replace hw : r83 = r83z := hw
                  subst hw
                  obtain ⟨hP1, hK1, hD1⟩ := hB
                  rw [ht] at hP1
                  obtain ⟨hP, hD⟩ := jn_all (w1 := (mW h0 kB kI kZ q (upd (upd (upd (upd (upd (upd (upd g 23 c12_g23) 27 c12_g27) 30 c12_g30) 34 c12_g34) 36 c12_g36) 39 c12_g39) 51 c12_g51) (upF (upF (upF (upF (upF (upF (upF (upF (upF (upF (upF (upF (upF (upF (upF (upF F 22 c12_F22) 24 c12_F24) 25 c12_F25) 26 c12_F26) 28 c12_F28) 29 c12_F29) 31 c12_F31) 32 c12_F32) 33 c12_F33) 37 c12_F37) 38 c12_F38) 40 c12_F40) 41 c12_F41) 52 c12_F52) 53 c12_F53) 54 c12_F54))) hFc hP1 hD1
                  clear hFc hP1 hK1 hD1 hk1 hz1 ht hvm
                  generalize H1 = H at hP hS ⊢
                  have hP : va_P (dC, dI) vwCl (mW h0 kB kI kZ q (upd (upd (upd (upd (upd (upd (upd g 23 c12_g23) 27 c12_g27) 30 c12_g30) 34 c12_g34) 36 c12_g36) 39 c12_g39) 51 c12_g51) (upF (upF (upF (upF (upF (upF (upF (upF (upF (upF (upF (upF (upF (upF (upF (upF F 22 c12_F22) 24 c12_F24) 25 c12_F25) 26 c12_F26) 28 c12_F28) 29 c12_F29) 31 c12_F31) 32 c12_F32) 33 c12_F33) 37 c12_F37) 38 c12_F38) 40 c12_F40) 41 c12_F41) 52 c12_F52) 53 c12_F53) 54 c12_F54)) H := hP
                  have hD : va_D A (mW h0 kB kI kZ q (upd (upd (upd (upd (upd (upd (upd g 23 c12_g23) 27 c12_g27) 30 c12_g30) 34 c12_g34) 36 c12_g36) 39 c12_g39) 51 c12_g51) (upF (upF (upF (upF (upF (upF (upF (upF (upF (upF (upF (upF (upF (upF (upF (upF F 22 c12_F22) 24 c12_F24) 25 c12_F25) 26 c12_F26) 28 c12_F28) 29 c12_F29) 31 c12_F31) 32 c12_F32) 33 c12_F33) 37 c12_F37) 38 c12_F38) 40 c12_F40) 41 c12_F41) 52 c12_F52) 53 c12_F53) 54 c12_F54)) := hD
                  refine lv_if_ne (tgt := 93) hx hb dX12_rhymes_86 (by decide) (fun c86 => ?_) (fun c86 => ?_)
                  · replace hr := iteF c86 hr
                    exact Jj93 H _ ls hr hP hD hS (lv_sub hl [0, 1, 3, 4] rfl)
                  · replace hr := iteT c86 hr
                    refine lv_iconst (v := 1) hx hb dX12_rhymes_89 (by decide +kernel) ?_
                    refine lv_goto (tgt := 94) hx hb dX12_rhymes_90 (by decide) ?_
                    exact Jj94 1 H _ ls hr hP hD hS (lv_sub hl [0, 1, 3, 4] rfl)
          exact lp32 NN y19_2 x30 H _ ls hr hP hD hS (lv_sub hl [1, 2, 3, 4, 0] rfl)
    exact lp19 NN 0 0 H _ ls hr hP hD hS (lv_sub hl [2, 3, 1, 0] rfl)
  · replace hr := iteT c5 hr
    refine lv_bipush (v := (-2)) hx hb dX12_rhymes_8 (by decide +kernel) ?_
    first | exact K 10 ls _ _ _ _ _ _ _ _ _ _ _ _ _ _ _ _ _ _ _ _ _ _ _ _ H _ hr dX12_rhymes_10 (sP_eq (mW_cg (by repeat (first | with_reducible rfl | with_reducible refine upd_cg ?_ | refine Eq.trans ?_ (upd_id rfl))) (by repeat (first | with_reducible rfl | with_reducible refine upF_cg ?_ | refine Eq.trans ?_ (upF_id rfl)))) hP) (sD_eq (mW_cg (by repeat (first | with_reducible rfl | with_reducible refine upd_cg ?_ | refine Eq.trans ?_ (upd_id rfl))) (by repeat (first | with_reducible rfl | with_reducible refine upF_cg ?_ | refine Eq.trans ?_ (upF_id rfl)))) hD) hS | exact K 10 ls _ _ _ _ _ _ _ _ _ _ _ _ _ _ _ _ _ _ _ _ _ _ _ _ H _ hr dX12_rhymes_10 hP hD hS
set_option maxHeartbeats 4000000 in
set_option maxRecDepth 100000 in
theorem m_rhymes (l : Launch) (dC : Nat → ClassId) (dI : Nat → Nat → Nat) (sz : Nat) (h0 : Nat) (kB kI kZ : ClassId) (q : Nat → Nat) (g : Nat → Int32) (F : Nat → Nat → Int32) (p0 : Int32) (r : Int32) (c_g23 : Int32) (c_g27 : Int32) (c_g30 : Int32) (c_g34 : Int32) (c_g36 : Int32) (c_g39 : Int32) (c_g51 : Int32) (c_F22 : (Nat → Int32)) (c_F24 : (Nat → Int32)) (c_F25 : (Nat → Int32)) (c_F26 : (Nat → Int32)) (c_F28 : (Nat → Int32)) (c_F29 : (Nat → Int32)) (c_F31 : (Nat → Int32)) (c_F32 : (Nat → Int32)) (c_F33 : (Nat → Int32)) (c_F37 : (Nat → Int32)) (c_F38 : (Nat → Int32)) (c_F40 : (Nat → Int32)) (c_F41 : (Nat → Int32)) (c_F52 : (Nat → Int32)) (c_F53 : (Nat → Int32)) (c_F54 : (Nat → Int32)) (hr : f_rhymes g F p0 = some (r, c_g23, c_g27, c_g30, c_g34, c_g36, c_g39, c_g51, c_F22, c_F24, c_F25, c_F26, c_F28, c_F29, c_F31, c_F32, c_F33, c_F37, c_F38, c_F40, c_F41, c_F52, c_F53, c_F54)) : Met l yX12_rhymes vmX12_rhymes ({ frames := 48, cells := 0, slots := 0, locals := 1171 } : Room) (va_Pc [.ref h0, .int p0] (fun U => U.heap.size = sz ∧ va_P (dC, dI) vwCl (mW h0 kB kI kZ q g F) U.heap ∧ va_K (dC, dI) vwCl (mT kB kI kZ) U ∧ va_D (fun _ => True) (mW h0 kB kI kZ q g F))) (va_Qi (fun (rz : Int32) (_ : Unit) => rz = r) (fun _ t => va_P (dC, dI) vwCl (mW h0 kB kI kZ q (upd (upd (upd (upd (upd (upd (upd g 23 c_g23) 27 c_g27) 30 c_g30) 34 c_g34) 36 c_g36) 39 c_g39) 51 c_g51) (upF (upF (upF (upF (upF (upF (upF (upF (upF (upF (upF (upF (upF (upF (upF (upF F 22 c_F22) 24 c_F24) 25 c_F25) 26 c_F26) 28 c_F28) 29 c_F29) 31 c_F31) 32 c_F32) 33 c_F33) 37 c_F37) 38 c_F38) 40 c_F40) 41 c_F41) 52 c_F52) 53 c_F53) 54 c_F54)) t.heap ∧ va_K (dC, dI) vwCl (mT kB kI kZ) t ∧ va_D (va_A (mW h0 kB kI kZ q g F) sz) (mW h0 kB kI kZ q (upd (upd (upd (upd (upd (upd (upd g 23 c_g23) 27 c_g27) 30 c_g30) 34 c_g34) 36 c_g36) 39 c_g39) 51 c_g51) (upF (upF (upF (upF (upF (upF (upF (upF (upF (upF (upF (upF (upF (upF (upF (upF F 22 c_F22) 24 c_F24) 25 c_F25) 26 c_F26) 28 c_F28) 29 c_F29) 31 c_F31) 32 c_F32) 33 c_F33) 37 c_F37) 38 c_F38) 40 c_F40) 41 c_F41) 52 c_F52) 53 c_F53) 54 c_F54))) (va_A (mW h0 kB kI kZ q g F) sz)) 0 0 (va_A (mW h0 kB kI kZ q g F) sz) := by
  refine Met.ofW (cc := cX12_rhymes) (maxL := 5) (ret := (some .int)) (by decide) rfl ?_
  intro p e s m args below meth c s₁ B hml hv
  obtain ⟨rfl, hsz, hP, hK, hD0⟩ := hv
  have hx := B.exec
  have hb := B.bytes
  have hrt := B.returns
  have hts := atoms_spec (ws := vmX12_rhymes) B.pre
  have hown : s.vm.findClass RX12 = some m.cls := findClass_of_methodNamed B.named
  subst hsz
  have hD := hD0.self (sz := s.heap.size)
  generalize hAe : va_A (mW h0 kB kI kZ q g F) s.heap.size = A at hD ⊢
  have hA : ∀ q : Nat, s.heap.size ≤ q → A q := fun q h => by rw [← hAe]; exact Or.inr h
  have hS : va_S A s.heap s.heap [] := va_S.rf
  have hl := lv_entry ([.ref h0, .int p0]) (n := 5) (Nat.le_of_ble_eq_true rfl)
  rw [lg_entry_eq]
  generalize (lg_sl ([.ref h0, .int p0]) ++ List.replicate (5 - (lg_sl ([.ref h0, .int p0])).length) Slot.unset).toArray = ls at hl ⊢
  exact bm_rhymes p0 r c_g23 c_g27 c_g30 c_g34 c_g36 c_g39 c_g51 c_F22 c_F24 c_F25 c_F26 c_F28 c_F29 c_F31 c_F32 c_F33 c_F37 c_F38 c_F40 c_F41 c_F52 c_F53 c_F54 hr hx hb hml hown hts hA hK hP hD hS hl (fun pc ls rz c_g23z c_g27z c_g30z c_g34z c_g36z c_g39z c_g51z c_F22z c_F24z c_F25z c_F26z c_F28z c_F29z c_F31z c_F32z c_F33z c_F37z c_F38z c_F40z c_F41z c_F52z c_F53z c_F54z H locs he hd hP hD hS => by cases he; exact W.iret (v := r) hx hb hrt (fun t ht hW => ⟨⟨r, (), rfl, rfl, by rw [ht]; exact hP, va_K.moved hW.alike hK, hD⟩, hS.F ht⟩) hS.2.2 hd)
set_option maxHeartbeats 4000000 in
set_option maxRecDepth 100000 in
theorem bm_sameBytes_52_49 {p : Program} {l : Launch} {e : Env} {s : State} {m : MethodId} {args : Array Value} {below : List Frame} {meth : Method} {c : Code} {Q : State → Prop} {A : Nat → Prop} {dC : Nat → ClassId} {dI : Nat → Nat → Nat} {h0 : Nat} {kB kI kZ : ClassId} {q : Nat → Nat} {g : Nat → Int32} {F : Nat → Nat → Int32} {H : Heap} {locs : List Loc} {ls : Array Slot} (p1 : Int32) (p2 : Int32) (p4 : Int32) (p5 : Int32) (r : Int32) (hr : f_sameBytes (F 52) 201600 p1 p2 (F 49) 2400 p4 p5 = some r) (hx : p.tables.exec = Jvm.exec) (hb : c.code = cX12_sameBytes) (hml : c.maxLocals = 7) (hown : s.vm.findClass RX12 = some m.cls) (hts : ∀ w ∈ vmX12_sameBytes, w.before args s = true) (hA : ∀ q : Nat, s.heap.size ≤ q → A q) (hK : va_K (dC, dI) vwCl (mT kB kI kZ) s) (hP : va_P (dC, dI) vwCl (mW h0 kB kI kZ q g F) H) (hD : va_D A (mW h0 kB kI kZ q g F)) (hS : va_S A s.heap H locs) (hl : lv_has ls 7 [(0, .ref (q 52)), (1, .int p1), (2, .int p2), (3, .ref (q 49)), (4, .int p4), (5, .int p5)])
    (K : ∀ (pc : Nat) (ls : Array Slot) (rz : Int32) (H : Heap) (locs : List Loc), some rz = some r → is01 rz → decode cX12_sameBytes pc = .ok (.ireturn, 1) → va_P (dC, dI) vwCl (mW h0 kB kI kZ q g F) H → va_D A (mW h0 kB kI kZ q g F) → va_S A s.heap H locs → W p l e ({ frames := 2, cells := 0, slots := 0, locals := 60 } : Room) s m args below meth c H locs 0 0 Q (F0 m pc ls [.int rz])) : W p l e ({ frames := 2, cells := 0, slots := 0, locals := 60 } : Room) s m args below meth c H locs 0 0 Q (F0 m 0 ls []) := by
  unfold f_sameBytes at hr
  refine lv_iload_n hx hb dX12_sameBytes_0 rfl (lv_at hl 2 rfl) ?_
  refine lv_iload hx hb dX12_sameBytes_1 (lv_at hl 5 rfl) ?_
  refine lv_icmp_eq (tgt := 8) hx hb dX12_sameBytes_3 (by decide) (fun c3 => ?_) (fun c3 => ?_)
  · replace hr := iteT c3 hr
    refine lv_iconst (v := 0) hx hb dX12_sameBytes_8 (by decide +kernel) ?_
    refine lv_istore (lv' := [(6, .int 0), (0, .ref (q 52)), (1, .int p1), (2, .int p2), (3, .ref (q 49)), (4, .int p4), (5, .int p5)]) hx hb dX12_sameBytes_9 hl (by decide) rfl (fun ls hl => ?_)
    have lp11 : ∀ (n11 : Nat) (y11_6 : Int32) (H : Heap) (locs : List Loc) (ls : Array Slot), L_sameBytes_11 (F 52) 201600 p1 p2 (F 49) 2400 p4 n11 y11_6 = some r → va_P (dC, dI) vwCl (mW h0 kB kI kZ q g F) H → va_D A (mW h0 kB kI kZ q g F) → va_S A s.heap H locs → lv_has ls 7 [(0, .ref (q 52)), (1, .int p1), (2, .int p2), (3, .ref (q 49)), (4, .int p4), (6, .int y11_6)] → W p l e ({ frames := 2, cells := 0, slots := 0, locals := 60 } : Room) s m args below meth c H locs 0 0 Q (F0 m 11 ls []) := by
      intro n11
      induction n11 with
      | zero => intro y11_6 H locs ls hr; exact nomatch (show none = some r from hr)
      | succ n11 ih11 =>
        intro y11_6 H locs ls hr hP hD hS hl
        replace hr : B_sameBytes_11 (F 52) 201600 p1 p2 (F 49) 2400 p4 (L_sameBytes_11 (F 52) 201600 p1 p2 (F 49) 2400 p4 n11) y11_6 = some r := hr
        unfold B_sameBytes_11 at hr
        refine lv_iload hx hb dX12_sameBytes_11 (lv_at hl 5 rfl) ?_
        refine lv_iload_n hx hb dX12_sameBytes_13 rfl (lv_at hl 2 rfl) ?_
        refine lv_icmp_ge (tgt := 41) hx hb dX12_sameBytes_14 (by decide) (fun c14 => ?_) (fun c14 => ?_)
        · replace hr := iteT c14 hr
          refine lv_iconst (v := 1) hx hb dX12_sameBytes_41 (by decide +kernel) ?_
          exact K 42 ls _ H _ hr (by decide) dX12_sameBytes_42 hP hD hS
        · replace hr := iteF c14 hr
          refine lv_aload_n hx hb dX12_sameBytes_17 rfl (lv_at hl 0 rfl) ?_
          refine lv_iload_n hx hb dX12_sameBytes_18 rfl (lv_at hl 1 rfl) ?_
          refine lv_iload hx hb dX12_sameBytes_19 (lv_at hl 5 rfl) ?_
          refine lv_iadd hx hb dX12_sameBytes_21 ?_
          replace hr := iteS hr
          obtain ⟨hi22, hr⟩ := hr
          refine va_bald (f := (F 52)) hx hb hK hP 33 0 rfl rfl (inbV hi22) dX12_sameBytes_22 ?_
          refine lv_aload_n hx hb dX12_sameBytes_23 rfl (lv_at hl 3 rfl) ?_
          refine lv_iload hx hb dX12_sameBytes_24 (lv_at hl 4 rfl) ?_
          refine lv_iload hx hb dX12_sameBytes_26 (lv_at hl 5 rfl) ?_
          refine lv_iadd hx hb dX12_sameBytes_28 ?_
          replace hr := iteS hr
          obtain ⟨hi29, hr⟩ := hr
          refine va_bald (f := (F 49)) hx hb hK hP 31 0 rfl rfl (inbV hi29) dX12_sameBytes_29 ?_
          refine lv_icmp_eq (tgt := 35) hx hb dX12_sameBytes_30 (by decide) (fun c30 => ?_) (fun c30 => ?_)
          · replace hr := iteT c30 hr
            refine lv_iinc (v := (y11_6 + 1)) (lv' := [(6, .int (y11_6 + 1)), (0, .ref (q 52)), (1, .int p1), (2, .int p2), (3, .ref (q 49)), (4, .int p4)]) hx hb dX12_sameBytes_35 hl (k := 5) rfl rfl (by decide) rfl (fun ls hl => ?_)
            refine lv_goto (tgt := 11) hx hb dX12_sameBytes_38 (by decide) ?_
            exact ih11 (y11_6 + 1) H _ ls hr hP hD hS (lv_sub hl [1, 2, 3, 4, 5, 0] rfl)
          · replace hr := iteF c30 hr
            refine lv_iconst (v := 0) hx hb dX12_sameBytes_33 (by decide +kernel) ?_
            exact K 34 ls _ H _ hr (by decide) dX12_sameBytes_34 hP hD hS
    exact lp11 NN 0 H _ ls hr hP hD hS (lv_sub hl [1, 2, 3, 4, 5, 0] rfl)
  · replace hr := iteF c3 hr
    refine lv_iconst (v := 0) hx hb dX12_sameBytes_6 (by decide +kernel) ?_
    exact K 7 ls _ H _ hr (by decide) dX12_sameBytes_7 hP hD hS
set_option maxHeartbeats 4000000 in
set_option maxRecDepth 100000 in
theorem m_sameBytes_52_49 (l : Launch) (dC : Nat → ClassId) (dI : Nat → Nat → Nat) (sz : Nat) (h0 : Nat) (kB kI kZ : ClassId) (q : Nat → Nat) (g : Nat → Int32) (F : Nat → Nat → Int32) (p1 : Int32) (p2 : Int32) (p4 : Int32) (p5 : Int32) (r : Int32) (hr : f_sameBytes (F 52) 201600 p1 p2 (F 49) 2400 p4 p5 = some r) : Met l yX12_sameBytes vmX12_sameBytes ({ frames := 2, cells := 0, slots := 0, locals := 60 } : Room) (va_Pc [.ref (q 52), .int p1, .int p2, .ref (q 49), .int p4, .int p5] (fun U => U.heap.size = sz ∧ va_P (dC, dI) vwCl (mW h0 kB kI kZ q g F) U.heap ∧ va_K (dC, dI) vwCl (mT kB kI kZ) U ∧ va_D (fun _ => True) (mW h0 kB kI kZ q g F))) (va_Qi (fun (rz : Int32) (_ : Unit) => rz = r) (fun _ t => va_P (dC, dI) vwCl (mW h0 kB kI kZ q g F) t.heap ∧ va_K (dC, dI) vwCl (mT kB kI kZ) t ∧ va_D (va_A (mW h0 kB kI kZ q g F) sz) (mW h0 kB kI kZ q g F)) (va_A (mW h0 kB kI kZ q g F) sz)) 0 0 (va_A (mW h0 kB kI kZ q g F) sz) := by
  refine Met.ofW (cc := cX12_sameBytes) (maxL := 7) (ret := (some .boolean)) (by decide) rfl ?_
  intro p e s m args below meth c s₁ B hml hv
  obtain ⟨rfl, hsz, hP, hK, hD0⟩ := hv
  have hx := B.exec
  have hb := B.bytes
  have hrt := B.returns
  have hts := atoms_spec (ws := vmX12_sameBytes) B.pre
  have hown : s.vm.findClass RX12 = some m.cls := findClass_of_methodNamed B.named
  subst hsz
  have hD := hD0.self (sz := s.heap.size)
  generalize hAe : va_A (mW h0 kB kI kZ q g F) s.heap.size = A at hD ⊢
  have hA : ∀ q : Nat, s.heap.size ≤ q → A q := fun q h => by rw [← hAe]; exact Or.inr h
  have hS : va_S A s.heap s.heap [] := va_S.rf
  have hl := lv_entry ([.ref (q 52), .int p1, .int p2, .ref (q 49), .int p4, .int p5]) (n := 7) (Nat.le_of_ble_eq_true rfl)
  rw [lg_entry_eq]
  generalize (lg_sl ([.ref (q 52), .int p1, .int p2, .ref (q 49), .int p4, .int p5]) ++ List.replicate (7 - (lg_sl ([.ref (q 52), .int p1, .int p2, .ref (q 49), .int p4, .int p5])).length) Slot.unset).toArray = ls at hl ⊢
  exact bm_sameBytes_52_49 p1 p2 p4 p5 r hr hx hb hml hown hts hA hK hP hD hS hl (fun pc ls rz H locs he hz hd hP hD hS => by cases he; exact W.zret (v := r) hx hb hrt (z_nb hz) (fun t ht hW => ⟨⟨r, (), rfl, rfl, by rw [ht]; exact hP, va_K.moved hW.alike hK, hD⟩, hS.F ht⟩) hS.2.2 hd)
set_option maxHeartbeats 4000000 in
set_option maxRecDepth 100000 in
theorem bm_hasForm_49 {p : Program} {l : Launch} {e : Env} {s : State} {m : MethodId} {args : Array Value} {below : List Frame} {meth : Method} {c : Code} {Q : State → Prop} {A : Nat → Prop} {dC : Nat → ClassId} {dI : Nat → Nat → Nat} {h0 : Nat} {kB kI kZ : ClassId} {q : Nat → Nat} {g : Nat → Int32} {F : Nat → Nat → Int32} {H : Heap} {locs : List Loc} {ls : Array Slot} (p0 : Int32) (p1 : Int32) (p3 : Int32) (p4 : Int32) (r : Int32) (hr : f_hasForm g F p0 p1 (F 49) 2400 p3 p4 = some r) (hx : p.tables.exec = Jvm.exec) (hb : c.code = cX12_hasForm) (hml : c.maxLocals = 7) (hown : s.vm.findClass RX12 = some m.cls) (hts : ∀ w ∈ vmX12_hasForm, w.before args s = true) (hA : ∀ q : Nat, s.heap.size ≤ q → A q) (hK : va_K (dC, dI) vwCl (mT kB kI kZ) s) (hP : va_P (dC, dI) vwCl (mW h0 kB kI kZ q g F) H) (hD : va_D A (mW h0 kB kI kZ q g F)) (hS : va_S A s.heap H locs) (hl : lv_has ls 7 [(0, .ref h0), (1, .int p0), (2, .int p1), (3, .ref (q 49)), (4, .int p3), (5, .int p4)])
    (K : ∀ (pc : Nat) (ls : Array Slot) (rz : Int32) (H : Heap) (locs : List Loc), some rz = some r → is01 rz → decode cX12_hasForm pc = .ok (.ireturn, 1) → va_P (dC, dI) vwCl (mW h0 kB kI kZ q g F) H → va_D A (mW h0 kB kI kZ q g F) → va_S A s.heap H locs → W p l e ({ frames := 3, cells := 0, slots := 0, locals := 86 } : Room) s m args below meth c H locs 0 0 Q (F0 m pc ls [.int rz])) : W p l e ({ frames := 3, cells := 0, slots := 0, locals := 86 } : Room) s m args below meth c H locs 0 0 Q (F0 m 0 ls []) := by
  unfold f_hasForm at hr
  refine lv_bipush (v := 12) hx hb dX12_hasForm_0 (by decide +kernel) ?_
  refine lv_bipush (v := 7) hx hb dX12_hasForm_2 (by decide +kernel) ?_
  refine lv_iload_n hx hb dX12_hasForm_4 rfl (lv_at hl 1 rfl) ?_
  refine lv_imul hx hb dX12_hasForm_5 ?_
  refine lv_iload_n hx hb dX12_hasForm_6 rfl (lv_at hl 2 rfl) ?_
  refine lv_iadd hx hb dX12_hasForm_7 ?_
  refine lv_imul hx hb dX12_hasForm_8 ?_
  refine lv_topi (fun x9 ex9 => ?_)
  replace hr := vlS hr x9 ex9
  clear ex9
  refine lv_istore (lv' := [(6, .int x9), (0, .ref h0), (1, .int p0), (2, .int p1), (3, .ref (q 49)), (4, .int p3), (5, .int p4)]) hx hb dX12_hasForm_9 hl (by decide) rfl (fun ls hl => ?_)
  have lp11 : ∀ (n11 : Nat) (y11_6 : Int32) (H : Heap) (locs : List Loc) (ls : Array Slot), L_hasForm_11 F p0 p1 (F 49) 2400 p3 p4 n11 y11_6 = some r → va_P (dC, dI) vwCl (mW h0 kB kI kZ q g F) H → va_D A (mW h0 kB kI kZ q g F) → va_S A s.heap H locs → lv_has ls 7 [(0, .ref h0), (1, .int p0), (2, .int p1), (3, .ref (q 49)), (4, .int p3), (5, .int p4), (6, .int y11_6)] → W p l e ({ frames := 3, cells := 0, slots := 0, locals := 86 } : Room) s m args below meth c H locs 0 0 Q (F0 m 11 ls []) := by
    intro n11
    induction n11 with
    | zero => intro y11_6 H locs ls hr; exact nomatch (show none = some r from hr)
    | succ n11 ih11 =>
      intro y11_6 H locs ls hr hP hD hS hl
      replace hr : B_hasForm_11 F p0 p1 (F 49) 2400 p3 p4 (L_hasForm_11 F p0 p1 (F 49) 2400 p3 p4 n11) y11_6 = some r := hr
      unfold B_hasForm_11 at hr
      refine lv_iload hx hb dX12_hasForm_11 (lv_at hl 6 rfl) ?_
      refine lv_bipush (v := 12) hx hb dX12_hasForm_13 (by decide +kernel) ?_
      refine lv_bipush (v := 7) hx hb dX12_hasForm_15 (by decide +kernel) ?_
      refine lv_iload_n hx hb dX12_hasForm_17 rfl (lv_at hl 1 rfl) ?_
      refine lv_imul hx hb dX12_hasForm_18 ?_
      refine lv_iload_n hx hb dX12_hasForm_19 rfl (lv_at hl 2 rfl) ?_
      refine lv_iadd hx hb dX12_hasForm_20 ?_
      refine lv_imul hx hb dX12_hasForm_21 ?_
      refine lv_aload_n hx hb dX12_hasForm_22 rfl (lv_at hl 0 rfl) ?_
      refine va_get (D := (dC, dI)) (ci := 12) (v := .ref (q 54)) (C := RX12) (T := TX12) (N := 71) hx hb hts inX12 hown hK hP 0 rfl rfl 54 (by decide) (hts (.fieldLink RX12 119 "SpellTurnerModel" "formMany" "[I") im_107) (fun _ h9 => h9) rfl dX12_hasForm_23 ?_
      refine lv_bipush (v := 7) hx hb dX12_hasForm_26 (by decide +kernel) ?_
      refine lv_iload_n hx hb dX12_hasForm_28 rfl (lv_at hl 1 rfl) ?_
      refine lv_imul hx hb dX12_hasForm_29 ?_
      refine lv_iload_n hx hb dX12_hasForm_30 rfl (lv_at hl 2 rfl) ?_
      refine lv_iadd hx hb dX12_hasForm_31 ?_
      replace hr := iteS hr
      obtain ⟨hi32, hr⟩ := hr
      refine va_iald (f := (F 54)) hx hb hK hP 35 1 rfl rfl (inbV hi32) dX12_hasForm_32 ?_
      refine lv_iadd hx hb dX12_hasForm_33 ?_
      refine lv_icmp_ge (tgt := 72) hx hb dX12_hasForm_34 (by decide) (fun c34 => ?_) (fun c34 => ?_)
      · replace hr := iteT c34 hr
        refine lv_iconst (v := 0) hx hb dX12_hasForm_72 (by decide +kernel) ?_
        exact K 73 ls _ H _ hr (by decide) dX12_hasForm_73 hP hD hS
      · replace hr := iteF c34 hr
        refine lv_aload_n hx hb dX12_hasForm_37 rfl (lv_at hl 0 rfl) ?_
        refine va_get (D := (dC, dI)) (ci := 12) (v := .ref (q 52)) (C := RX12) (T := TX12) (N := 71) hx hb hts inX12 hown hK hP 0 rfl rfl 52 (by decide) (hts (.fieldLink RX12 113 "SpellTurnerModel" "formText" "[B") im_108) (fun _ h9 => h9) rfl dX12_hasForm_38 ?_
        refine lv_bipush (v := 24) hx hb dX12_hasForm_41 (by decide +kernel) ?_
        refine lv_iload hx hb dX12_hasForm_43 (lv_at hl 6 rfl) ?_
        refine lv_imul hx hb dX12_hasForm_45 ?_
        refine lv_aload_n hx hb dX12_hasForm_46 rfl (lv_at hl 0 rfl) ?_
        refine va_get (D := (dC, dI)) (ci := 12) (v := .ref (q 53)) (C := RX12) (T := TX12) (N := 71) hx hb hts inX12 hown hK hP 0 rfl rfl 53 (by decide) (hts (.fieldLink RX12 116 "SpellTurnerModel" "formSize" "[I") im_109) (fun _ h9 => h9) rfl dX12_hasForm_47 ?_
        refine lv_iload hx hb dX12_hasForm_50 (lv_at hl 6 rfl) ?_
        replace hr := iteS hr
        obtain ⟨hi52, hr⟩ := hr
        refine va_iald (f := (F 53)) hx hb hK hP 34 1 rfl rfl (inbV hi52) dX12_hasForm_52 ?_
        refine lv_aload_n hx hb dX12_hasForm_53 rfl (lv_at hl 3 rfl) ?_
        refine lv_iload hx hb dX12_hasForm_54 (lv_at hl 4 rfl) ?_
        refine lv_iload hx hb dX12_hasForm_56 (lv_at hl 5 rfl) ?_
        replace hr := b1S hr
        obtain ⟨r58z, hc58, hr⟩ := hr
        have hFc := fr_all hD hS hA
        refine va_calli (va_runS (As := [.ref (q 52), .int (24 * y11_6), .int ((F 53) (Int32.toNatClampNeg y11_6)), .ref (q 49), .int p3, .int p4]) (rest := []) ⟨hx, hb, hml, hown, hts⟩ (m_sameBytes_52_49 l dC dI H.size h0 kB kI kZ q g F (24 * y11_6) ((F 53) (Int32.toNatClampNeg y11_6)) p3 p4 r58z hc58) (va_cwS 6 hts gw_X12_sameBytes_273 rfl rfl rfl (by decide +kernel) ⟨Nat.le_of_ble_eq_true rfl, Nat.le_of_ble_eq_true rfl⟩) ⟨fun a U g mk q => by obtain ⟨q0, q1, qP, qK, qD⟩ := q; exact ⟨q0, q1, qP, va_K.moved (u := U) (U := U.calling g mk a) (Vm.Alike.refl U.vm) qK, qD⟩, fun U hU hW => ⟨rfl, by rw [hU], by rw [hU]; exact hP, va_K.moved hW.alike hK, hD.weaken (fun _ _ _ _ => trivial)⟩⟩ rfl rfl hl.1 rfl (lv_room (Nat.le_of_ble_eq_true rfl)) dX12_hasForm_58 ⟨Nat.le_of_ble_eq_true rfl, Nat.le_of_ble_eq_true rfl⟩) hS (fun q _ h => hFc q h) hFc (fun r58 u t H1 locs ht hvm hw hB hz1 hk1 hS => ?_)
        replace hw : r58 = r58z := hw
        subst hw
        obtain ⟨hP1, hK1, hD1⟩ := hB
        rw [ht] at hP1
        obtain ⟨hP, hD⟩ := jn_all (w1 := (mW h0 kB kI kZ q g F)) hFc hP1 hD1
        clear hFc hP1 hK1 hD1 hk1 hz1 ht hvm
        generalize H1 = H at hP hS ⊢
        have hP : va_P (dC, dI) vwCl (mW h0 kB kI kZ q g F) H := hP
        have hD : va_D A (mW h0 kB kI kZ q g F) := hD
        refine lv_if_eq (tgt := 66) hx hb dX12_hasForm_61 (by decide) (fun c61 => ?_) (fun c61 => ?_)
        · replace hr := iteT c61 hr
          refine lv_iinc (v := (y11_6 + 1)) (lv' := [(6, .int (y11_6 + 1)), (0, .ref h0), (1, .int p0), (2, .int p1), (3, .ref (q 49)), (4, .int p3), (5, .int p4)]) hx hb dX12_hasForm_66 hl (k := 6) rfl rfl (by decide) rfl (fun ls hl => ?_)
          refine lv_goto (tgt := 11) hx hb dX12_hasForm_69 (by decide) ?_
          exact ih11 (y11_6 + 1) H _ ls hr hP hD hS (lv_sub hl [1, 2, 3, 4, 5, 6, 0] rfl)
        · replace hr := iteF c61 hr
          refine lv_iconst (v := 1) hx hb dX12_hasForm_64 (by decide +kernel) ?_
          exact K 65 ls _ H _ hr (by decide) dX12_hasForm_65 hP hD hS
  exact lp11 NN x9 H _ ls hr hP hD hS (lv_sub hl [1, 2, 3, 4, 5, 6, 0] rfl)
set_option maxHeartbeats 4000000 in
set_option maxRecDepth 100000 in
theorem m_hasForm_49 (l : Launch) (dC : Nat → ClassId) (dI : Nat → Nat → Nat) (sz : Nat) (h0 : Nat) (kB kI kZ : ClassId) (q : Nat → Nat) (g : Nat → Int32) (F : Nat → Nat → Int32) (p0 : Int32) (p1 : Int32) (p3 : Int32) (p4 : Int32) (r : Int32) (hr : f_hasForm g F p0 p1 (F 49) 2400 p3 p4 = some r) : Met l yX12_hasForm vmX12_hasForm ({ frames := 3, cells := 0, slots := 0, locals := 86 } : Room) (va_Pc [.ref h0, .int p0, .int p1, .ref (q 49), .int p3, .int p4] (fun U => U.heap.size = sz ∧ va_P (dC, dI) vwCl (mW h0 kB kI kZ q g F) U.heap ∧ va_K (dC, dI) vwCl (mT kB kI kZ) U ∧ va_D (fun _ => True) (mW h0 kB kI kZ q g F))) (va_Qi (fun (rz : Int32) (_ : Unit) => rz = r) (fun _ t => va_P (dC, dI) vwCl (mW h0 kB kI kZ q g F) t.heap ∧ va_K (dC, dI) vwCl (mT kB kI kZ) t ∧ va_D (va_A (mW h0 kB kI kZ q g F) sz) (mW h0 kB kI kZ q g F)) (va_A (mW h0 kB kI kZ q g F) sz)) 0 0 (va_A (mW h0 kB kI kZ q g F) sz) := by
  refine Met.ofW (cc := cX12_hasForm) (maxL := 7) (ret := (some .boolean)) (by decide) rfl ?_
  intro p e s m args below meth c s₁ B hml hv
  obtain ⟨rfl, hsz, hP, hK, hD0⟩ := hv
  have hx := B.exec
  have hb := B.bytes
  have hrt := B.returns
  have hts := atoms_spec (ws := vmX12_hasForm) B.pre
  have hown : s.vm.findClass RX12 = some m.cls := findClass_of_methodNamed B.named
  subst hsz
  have hD := hD0.self (sz := s.heap.size)
  generalize hAe : va_A (mW h0 kB kI kZ q g F) s.heap.size = A at hD ⊢
  have hA : ∀ q : Nat, s.heap.size ≤ q → A q := fun q h => by rw [← hAe]; exact Or.inr h
  have hS : va_S A s.heap s.heap [] := va_S.rf
  have hl := lv_entry ([.ref h0, .int p0, .int p1, .ref (q 49), .int p3, .int p4]) (n := 7) (Nat.le_of_ble_eq_true rfl)
  rw [lg_entry_eq]
  generalize (lg_sl ([.ref h0, .int p0, .int p1, .ref (q 49), .int p3, .int p4]) ++ List.replicate (7 - (lg_sl ([.ref h0, .int p0, .int p1, .ref (q 49), .int p3, .int p4])).length) Slot.unset).toArray = ls at hl ⊢
  exact bm_hasForm_49 p0 p1 p3 p4 r hr hx hb hml hown hts hA hK hP hD hS hl (fun pc ls rz H locs he hz hd hP hD hS => by cases he; exact W.zret (v := r) hx hb hrt (z_nb hz) (fun t ht hW => ⟨⟨r, (), rfl, rfl, by rw [ht]; exact hP, va_K.moved hW.alike hK, hD⟩, hS.F ht⟩) hS.2.2 hd)
set_option maxHeartbeats 4000000 in
set_option maxRecDepth 100000 in
theorem bm_tell {p : Program} {l : Launch} {e : Env} {s : State} {m : MethodId} {args : Array Value} {below : List Frame} {meth : Method} {c : Code} {Q : State → Prop} {A : Nat → Prop} {dC : Nat → ClassId} {dI : Nat → Nat → Nat} {h0 : Nat} {kB kI kZ : ClassId} {q : Nat → Nat} {g : Nat → Int32} {F : Nat → Nat → Int32} {H : Heap} {locs : List Loc} {ls : Array Slot} (p0 : Int32) (p1 : Int32) (r : Int32) (c_g23 : Int32) (c_g27 : Int32) (c_g30 : Int32) (c_g34 : Int32) (c_g36 : Int32) (c_g39 : Int32) (c_g51 : Int32) (c_F22 : (Nat → Int32)) (c_F24 : (Nat → Int32)) (c_F25 : (Nat → Int32)) (c_F26 : (Nat → Int32)) (c_F28 : (Nat → Int32)) (c_F29 : (Nat → Int32)) (c_F31 : (Nat → Int32)) (c_F32 : (Nat → Int32)) (c_F33 : (Nat → Int32)) (c_F37 : (Nat → Int32)) (c_F38 : (Nat → Int32)) (c_F40 : (Nat → Int32)) (c_F41 : (Nat → Int32)) (c_F52 : (Nat → Int32)) (c_F53 : (Nat → Int32)) (c_F54 : (Nat → Int32)) (hr : f_tell g F p0 p1 = some (r, c_g23, c_g27, c_g30, c_g34, c_g36, c_g39, c_g51, c_F22, c_F24, c_F25, c_F26, c_F28, c_F29, c_F31, c_F32, c_F33, c_F37, c_F38, c_F40, c_F41, c_F52, c_F53, c_F54)) (hx : p.tables.exec = Jvm.exec) (hb : c.code = cX12_tell) (hml : c.maxLocals = 7) (hown : s.vm.findClass RX12 = some m.cls) (hts : ∀ w ∈ vmX12_tell, w.before args s = true) (hA : ∀ q : Nat, s.heap.size ≤ q → A q) (hK : va_K (dC, dI) vwCl (mT kB kI kZ) s) (hP : va_P (dC, dI) vwCl (mW h0 kB kI kZ q g F) H) (hD : va_D A (mW h0 kB kI kZ q g F)) (hS : va_S A s.heap H locs) (hl : lv_has ls 7 [(0, .ref h0), (1, .int p0), (2, .int p1)])
    (K : ∀ (pc : Nat) (ls : Array Slot) (rz : Int32) (c_g23z : Int32) (c_g27z : Int32) (c_g30z : Int32) (c_g34z : Int32) (c_g36z : Int32) (c_g39z : Int32) (c_g51z : Int32) (c_F22z : (Nat → Int32)) (c_F24z : (Nat → Int32)) (c_F25z : (Nat → Int32)) (c_F26z : (Nat → Int32)) (c_F28z : (Nat → Int32)) (c_F29z : (Nat → Int32)) (c_F31z : (Nat → Int32)) (c_F32z : (Nat → Int32)) (c_F33z : (Nat → Int32)) (c_F37z : (Nat → Int32)) (c_F38z : (Nat → Int32)) (c_F40z : (Nat → Int32)) (c_F41z : (Nat → Int32)) (c_F52z : (Nat → Int32)) (c_F53z : (Nat → Int32)) (c_F54z : (Nat → Int32)) (H : Heap) (locs : List Loc), some (rz, c_g23z, c_g27z, c_g30z, c_g34z, c_g36z, c_g39z, c_g51z, c_F22z, c_F24z, c_F25z, c_F26z, c_F28z, c_F29z, c_F31z, c_F32z, c_F33z, c_F37z, c_F38z, c_F40z, c_F41z, c_F52z, c_F53z, c_F54z) = some (r, c_g23, c_g27, c_g30, c_g34, c_g36, c_g39, c_g51, c_F22, c_F24, c_F25, c_F26, c_F28, c_F29, c_F31, c_F32, c_F33, c_F37, c_F38, c_F40, c_F41, c_F52, c_F53, c_F54) → decode cX12_tell pc = .ok (.ireturn, 1) → va_P (dC, dI) vwCl (mW h0 kB kI kZ q (upd (upd (upd (upd (upd (upd (upd g 23 c_g23z) 27 c_g27z) 30 c_g30z) 34 c_g34z) 36 c_g36z) 39 c_g39z) 51 c_g51z) (upF (upF (upF (upF (upF (upF (upF (upF (upF (upF (upF (upF (upF (upF (upF (upF F 22 c_F22z) 24 c_F24z) 25 c_F25z) 26 c_F26z) 28 c_F28z) 29 c_F29z) 31 c_F31z) 32 c_F32z) 33 c_F33z) 37 c_F37z) 38 c_F38z) 40 c_F40z) 41 c_F41z) 52 c_F52z) 53 c_F53z) 54 c_F54z)) H → va_D A (mW h0 kB kI kZ q (upd (upd (upd (upd (upd (upd (upd g 23 c_g23z) 27 c_g27z) 30 c_g30z) 34 c_g34z) 36 c_g36z) 39 c_g39z) 51 c_g51z) (upF (upF (upF (upF (upF (upF (upF (upF (upF (upF (upF (upF (upF (upF (upF (upF F 22 c_F22z) 24 c_F24z) 25 c_F25z) 26 c_F26z) 28 c_F28z) 29 c_F29z) 31 c_F31z) 32 c_F32z) 33 c_F33z) 37 c_F37z) 38 c_F38z) 40 c_F40z) 41 c_F41z) 52 c_F52z) 53 c_F53z) 54 c_F54z)) → va_S A s.heap H locs → W p l e ({ frames := 48, cells := 0, slots := 0, locals := 1171 } : Room) s m args below meth c H locs 0 0 Q (F0 m pc ls [.int rz])) : W p l e ({ frames := 48, cells := 0, slots := 0, locals := 1171 } : Room) s m args below meth c H locs 0 0 Q (F0 m 0 ls []) := by
  unfold f_tell at hr
  refine lv_aload_n hx hb dX12_tell_0 rfl (lv_at hl 0 rfl) ?_
  refine lv_iload_n hx hb dX12_tell_1 rfl (lv_at hl 1 rfl) ?_
  replace hr := b1S hr
  obtain ⟨r2z, hc2, hr⟩ := hr
  have hFc := fr_all hD hS hA
  refine va_calli (va_runV (As := [.int p0]) (rest := []) ⟨hx, hb, hml, hown, hts⟩ (m_isStage l dC dI H.size h0 kB kI kZ q g F p0 r2z hc2) (cwV 1 hts gw_X12_isStage_300 rfl rfl rfl (by decide +kernel) ⟨Nat.le_of_ble_eq_true rfl, Nat.le_of_ble_eq_true rfl⟩) ⟨fun a U g mk q => by obtain ⟨q0, q1, qP, qK, qD⟩ := q; exact ⟨q0, q1, qP, va_K.moved (u := U) (U := U.calling g mk a) (Vm.Alike.refl U.vm) qK, qD⟩, va_recv hK hP (ci := 12) (q0 := 0) rfl rfl, fun U hU hW => ⟨rfl, by rw [hU], by rw [hU]; exact hP, va_K.moved hW.alike hK, hD.weaken (fun _ _ _ _ => trivial)⟩⟩ rfl rfl hl.1 rfl (lv_room (Nat.le_of_ble_eq_true rfl)) dX12_tell_2 ⟨Nat.le_of_ble_eq_true rfl, Nat.le_of_ble_eq_true rfl⟩) hS (fun q _ h => hFc q h) hFc (fun r2 u t H1 locs ht hvm hw hB hz1 hk1 hS => ?_)
  replace hw : r2 = r2z := hw
  subst hw
  obtain ⟨hP1, hK1, hD1⟩ := hB
  rw [ht] at hP1
  obtain ⟨hP, hD⟩ := jn_all (w1 := (mW h0 kB kI kZ q g F)) hFc hP1 hD1
  clear hFc hP1 hK1 hD1 hk1 hz1 ht hvm
  generalize H1 = H at hP hS ⊢
  have hP : va_P (dC, dI) vwCl (mW h0 kB kI kZ q g F) H := hP
  have hD : va_D A (mW h0 kB kI kZ q g F) := hD
  replace hr := jnS hr
  obtain ⟨j17, hj17, hr⟩ := hr
  have Jj17 : ∀ (H : Heap) (locs : List Loc) (ls : Array Slot), j17 () = some (r, c_g23, c_g27, c_g30, c_g34, c_g36, c_g39, c_g51, c_F22, c_F24, c_F25, c_F26, c_F28, c_F29, c_F31, c_F32, c_F33, c_F37, c_F38, c_F40, c_F41, c_F52, c_F53, c_F54) → va_P (dC, dI) vwCl (mW h0 kB kI kZ q g F) H → va_D A (mW h0 kB kI kZ q g F) → va_S A s.heap H locs → lv_has ls 7 [] → W p l e ({ frames := 48, cells := 0, slots := 0, locals := 1171 } : Room) s m args below meth c H locs 0 0 Q (F0 m 17 ls []) := by
    intro H locs ls hr hP hD hS hl
    rw [hj17] at hr
    refine lv_bipush (v := (-2)) hx hb dX12_tell_17 (by decide +kernel) ?_
    first | exact K 19 ls _ _ _ _ _ _ _ _ _ _ _ _ _ _ _ _ _ _ _ _ _ _ _ _ H _ hr dX12_tell_19 (sP_eq (mW_cg (by repeat (first | with_reducible rfl | with_reducible refine upd_cg ?_ | refine Eq.trans ?_ (upd_id rfl))) (by repeat (first | with_reducible rfl | with_reducible refine upF_cg ?_ | refine Eq.trans ?_ (upF_id rfl)))) hP) (sD_eq (mW_cg (by repeat (first | with_reducible rfl | with_reducible refine upd_cg ?_ | refine Eq.trans ?_ (upd_id rfl))) (by repeat (first | with_reducible rfl | with_reducible refine upF_cg ?_ | refine Eq.trans ?_ (upF_id rfl)))) hD) hS | exact K 19 ls _ _ _ _ _ _ _ _ _ _ _ _ _ _ _ _ _ _ _ _ _ _ _ _ H _ hr dX12_tell_19 hP hD hS
  refine lv_if_eq (tgt := 17) hx hb dX12_tell_5 (by decide) (fun c5 => ?_) (fun c5 => ?_)
  · replace hr := iteT c5 hr
    exact Jj17 H _ ls hr hP hD hS (lv_sub hl [] rfl)
  · replace hr := iteF c5 hr
    refine lv_iload_n hx hb dX12_tell_8 rfl (lv_at hl 2 rfl) ?_
    refine lv_iconst (v := 0) hx hb dX12_tell_9 (by decide +kernel) ?_
    refine lv_iconst (v := 2) hx hb dX12_tell_10 (by decide +kernel) ?_
    replace hr := b1S hr
    obtain ⟨r11z, hc11, hr⟩ := hr
    have hFc := fr_all hD hS hA
    refine va_calli (va_runS (As := [.int p1, .int 0, .int 2]) (rest := []) ⟨hx, hb, hml, hown, hts⟩ (m_in l dC dI H.size h0 kB kI kZ q g F p1 0 2 r11z hc11) (va_cwS 3 hts gw_X12_in_226 rfl rfl rfl (by decide +kernel) ⟨Nat.le_of_ble_eq_true rfl, Nat.le_of_ble_eq_true rfl⟩) ⟨fun a U g mk q => by obtain ⟨q0, q1, qP, qK, qD⟩ := q; exact ⟨q0, q1, qP, va_K.moved (u := U) (U := U.calling g mk a) (Vm.Alike.refl U.vm) qK, qD⟩, fun U hU hW => ⟨rfl, by rw [hU], by rw [hU]; exact hP, va_K.moved hW.alike hK, hD.weaken (fun _ _ _ _ => trivial)⟩⟩ rfl rfl hl.1 rfl (lv_room (Nat.le_of_ble_eq_true rfl)) dX12_tell_11 ⟨Nat.le_of_ble_eq_true rfl, Nat.le_of_ble_eq_true rfl⟩) hS (fun q _ h => hFc q h) hFc (fun r11 u t H1 locs ht hvm hw hB hz1 hk1 hS => ?_)
    replace hw : r11 = r11z := hw
    subst hw
    obtain ⟨hP1, hK1, hD1⟩ := hB
    rw [ht] at hP1
    obtain ⟨hP, hD⟩ := jn_all (w1 := (mW h0 kB kI kZ q g F)) hFc hP1 hD1
    clear hFc hP1 hK1 hD1 hk1 hz1 ht hvm
    generalize H1 = H at hP hS ⊢
    have hP : va_P (dC, dI) vwCl (mW h0 kB kI kZ q g F) H := hP
    have hD : va_D A (mW h0 kB kI kZ q g F) := hD
    refine lv_if_ne (tgt := 20) hx hb dX12_tell_14 (by decide) (fun c14 => ?_) (fun c14 => ?_)
    · replace hr := iteF c14 hr
      refine lv_aload_n hx hb dX12_tell_20 rfl (lv_at hl 0 rfl) ?_
      replace hr := b23S hr
      obtain ⟨c21_g23, c21_g27, c21_g30, c21_g34, c21_g36, c21_g39, c21_g51, c21_F22, c21_F24, c21_F25, c21_F26, c21_F28, c21_F29, c21_F31, c21_F32, c21_F33, c21_F37, c21_F38, c21_F40, c21_F41, c21_F52, c21_F53, c21_F54, hc21, hr⟩ := hr
      have hFc := fr_all hD hS hA
      refine va_callv (va_runV (As := []) (rest := []) ⟨hx, hb, hml, hown, hts⟩ (m_make l dC dI H.size h0 kB kI kZ q g F c21_g23 c21_g27 c21_g30 c21_g34 c21_g36 c21_g39 c21_g51 c21_F22 c21_F24 c21_F25 c21_F26 c21_F28 c21_F29 c21_F31 c21_F32 c21_F33 c21_F37 c21_F38 c21_F40 c21_F41 c21_F52 c21_F53 c21_F54 hc21) (cwV 0 hts gw_X12_make_315 rfl rfl rfl (by decide +kernel) ⟨Nat.le_of_ble_eq_true rfl, Nat.le_of_ble_eq_true rfl⟩) ⟨fun a U g mk q => by obtain ⟨q0, q1, qP, qK, qD⟩ := q; exact ⟨q0, q1, qP, va_K.moved (u := U) (U := U.calling g mk a) (Vm.Alike.refl U.vm) qK, qD⟩, va_recv hK hP (ci := 12) (q0 := 0) rfl rfl, fun U hU hW => ⟨rfl, by rw [hU], by rw [hU]; exact hP, va_K.moved hW.alike hK, hD.weaken (fun _ _ _ _ => trivial)⟩⟩ rfl rfl hl.1 rfl (lv_room (Nat.le_of_ble_eq_true rfl)) dX12_tell_21 ⟨Nat.le_of_ble_eq_true rfl, Nat.le_of_ble_eq_true rfl⟩) hS (fun q _ h => hFc q h) hFc (fun u t H1 locs ht hvm hw hB hz1 hk1 hS => ?_)
      obtain ⟨hP1, hK1, hD1⟩ := hB
      rw [ht] at hP1
      obtain ⟨hP, hD⟩ := jn_all (w1 := (mW h0 kB kI kZ q (upd (upd (upd (upd (upd (upd (upd g 23 c21_g23) 27 c21_g27) 30 c21_g30) 34 c21_g34) 36 c21_g36) 39 c21_g39) 51 c21_g51) (upF (upF (upF (upF (upF (upF (upF (upF (upF (upF (upF (upF (upF (upF (upF (upF F 22 c21_F22) 24 c21_F24) 25 c21_F25) 26 c21_F26) 28 c21_F28) 29 c21_F29) 31 c21_F31) 32 c21_F32) 33 c21_F33) 37 c21_F37) 38 c21_F38) 40 c21_F40) 41 c21_F41) 52 c21_F52) 53 c21_F53) 54 c21_F54))) hFc hP1 hD1
      clear hFc hP1 hK1 hD1 hk1 hz1 ht hvm
      generalize H1 = H at hP hS ⊢
      have hP : va_P (dC, dI) vwCl (mW h0 kB kI kZ q (upd (upd (upd (upd (upd (upd (upd g 23 c21_g23) 27 c21_g27) 30 c21_g30) 34 c21_g34) 36 c21_g36) 39 c21_g39) 51 c21_g51) (upF (upF (upF (upF (upF (upF (upF (upF (upF (upF (upF (upF (upF (upF (upF (upF F 22 c21_F22) 24 c21_F24) 25 c21_F25) 26 c21_F26) 28 c21_F28) 29 c21_F29) 31 c21_F31) 32 c21_F32) 33 c21_F33) 37 c21_F37) 38 c21_F38) 40 c21_F40) 41 c21_F41) 52 c21_F52) 53 c21_F53) 54 c21_F54)) H := hP
      have hD : va_D A (mW h0 kB kI kZ q (upd (upd (upd (upd (upd (upd (upd g 23 c21_g23) 27 c21_g27) 30 c21_g30) 34 c21_g34) 36 c21_g36) 39 c21_g39) 51 c21_g51) (upF (upF (upF (upF (upF (upF (upF (upF (upF (upF (upF (upF (upF (upF (upF (upF F 22 c21_F22) 24 c21_F24) 25 c21_F25) 26 c21_F26) 28 c21_F28) 29 c21_F29) 31 c21_F31) 32 c21_F32) 33 c21_F33) 37 c21_F37) 38 c21_F38) 40 c21_F40) 41 c21_F41) 52 c21_F52) 53 c21_F53) 54 c21_F54)) := hD
      refine lv_iconst (v := 0) hx hb dX12_tell_24 (by decide +kernel) ?_
      refine lv_istore_n (lv' := [(3, .int 0), (0, .ref h0), (1, .int p0), (2, .int p1)]) hx hb dX12_tell_25 rfl hl (by decide) rfl (fun ls hl => ?_)
      refine lv_iconst (v := 0) hx hb dX12_tell_26 (by decide +kernel) ?_
      refine lv_istore (lv' := [(4, .int 0), (3, .int 0), (0, .ref h0), (1, .int p0), (2, .int p1)]) hx hb dX12_tell_27 hl (by decide) rfl (fun ls hl => ?_)
      have lp29 : ∀ (n29 : Nat) (y29_3 : Int32) (y29_4 : Int32) (H : Heap) (locs : List Loc) (ls : Array Slot), L_tell_29 g F p0 p1 c21_g23 c21_g27 c21_g30 c21_g34 c21_g36 c21_g39 c21_g51 c21_F22 c21_F24 c21_F25 c21_F26 c21_F28 c21_F29 c21_F31 c21_F32 c21_F33 c21_F37 c21_F38 c21_F40 c21_F41 c21_F52 c21_F53 c21_F54 n29 y29_3 y29_4 = some (r, c_g23, c_g27, c_g30, c_g34, c_g36, c_g39, c_g51, c_F22, c_F24, c_F25, c_F26, c_F28, c_F29, c_F31, c_F32, c_F33, c_F37, c_F38, c_F40, c_F41, c_F52, c_F53, c_F54) → va_P (dC, dI) vwCl (mW h0 kB kI kZ q (upd (upd (upd (upd (upd (upd (upd g 23 c21_g23) 27 c21_g27) 30 c21_g30) 34 c21_g34) 36 c21_g36) 39 c21_g39) 51 c21_g51) (upF (upF (upF (upF (upF (upF (upF (upF (upF (upF (upF (upF (upF (upF (upF (upF F 22 c21_F22) 24 c21_F24) 25 c21_F25) 26 c21_F26) 28 c21_F28) 29 c21_F29) 31 c21_F31) 32 c21_F32) 33 c21_F33) 37 c21_F37) 38 c21_F38) 40 c21_F40) 41 c21_F41) 52 c21_F52) 53 c21_F53) 54 c21_F54)) H → va_D A (mW h0 kB kI kZ q (upd (upd (upd (upd (upd (upd (upd g 23 c21_g23) 27 c21_g27) 30 c21_g30) 34 c21_g34) 36 c21_g36) 39 c21_g39) 51 c21_g51) (upF (upF (upF (upF (upF (upF (upF (upF (upF (upF (upF (upF (upF (upF (upF (upF F 22 c21_F22) 24 c21_F24) 25 c21_F25) 26 c21_F26) 28 c21_F28) 29 c21_F29) 31 c21_F31) 32 c21_F32) 33 c21_F33) 37 c21_F37) 38 c21_F38) 40 c21_F40) 41 c21_F41) 52 c21_F52) 53 c21_F53) 54 c21_F54)) → va_S A s.heap H locs → lv_has ls 7 [(0, .ref h0), (1, .int p0), (2, .int p1), (3, .int y29_3), (4, .int y29_4)] → W p l e ({ frames := 48, cells := 0, slots := 0, locals := 1171 } : Room) s m args below meth c H locs 0 0 Q (F0 m 29 ls []) := by
        intro n29
        induction n29 with
        | zero => intro y29_3 y29_4 H locs ls hr; exact nomatch (show none = some (r, c_g23, c_g27, c_g30, c_g34, c_g36, c_g39, c_g51, c_F22, c_F24, c_F25, c_F26, c_F28, c_F29, c_F31, c_F32, c_F33, c_F37, c_F38, c_F40, c_F41, c_F52, c_F53, c_F54) from hr)
        | succ n29 ih29 =>
          intro y29_3 y29_4 H locs ls hr hP hD hS hl
          replace hr : B_tell_29 g F p0 p1 c21_g23 c21_g27 c21_g30 c21_g34 c21_g36 c21_g39 c21_g51 c21_F22 c21_F24 c21_F25 c21_F26 c21_F28 c21_F29 c21_F31 c21_F32 c21_F33 c21_F37 c21_F38 c21_F40 c21_F41 c21_F52 c21_F53 c21_F54 (L_tell_29 g F p0 p1 c21_g23 c21_g27 c21_g30 c21_g34 c21_g36 c21_g39 c21_g51 c21_F22 c21_F24 c21_F25 c21_F26 c21_F28 c21_F29 c21_F31 c21_F32 c21_F33 c21_F37 c21_F38 c21_F40 c21_F41 c21_F52 c21_F53 c21_F54 n29) y29_3 y29_4 = some (r, c_g23, c_g27, c_g30, c_g34, c_g36, c_g39, c_g51, c_F22, c_F24, c_F25, c_F26, c_F28, c_F29, c_F31, c_F32, c_F33, c_F37, c_F38, c_F40, c_F41, c_F52, c_F53, c_F54) := hr
          unfold B_tell_29 at hr
          refine lv_iload hx hb dX12_tell_29 (lv_at hl 4 rfl) ?_
          refine lv_aload_n hx hb dX12_tell_31 rfl (lv_at hl 0 rfl) ?_
          refine va_get (D := (dC, dI)) (ci := 12) (v := .int (g 48)) (C := RX12) (T := TX12) (N := 71) hx hb hts inX12 hown hK hP 0 rfl rfl 48 (by decide) (hts (.fieldLink RX12 312 "SpellTurnerModel" "words" "I") im_85) (fun _ h9 => h9) rfl dX12_tell_32 ?_
          refine lv_icmp_ge (tgt := 146) hx hb dX12_tell_35 (by decide) (fun c35 => ?_) (fun c35 => ?_)
          · replace hr := iteT c35 hr
            refine lv_iload_n hx hb dX12_tell_146 rfl (lv_at hl 3 rfl) ?_
            first | exact K 147 ls _ _ _ _ _ _ _ _ _ _ _ _ _ _ _ _ _ _ _ _ _ _ _ _ H _ hr dX12_tell_147 (sP_eq (mW_cg (by repeat (first | with_reducible rfl | with_reducible refine upd_cg ?_ | refine Eq.trans ?_ (upd_id rfl))) (by repeat (first | with_reducible rfl | with_reducible refine upF_cg ?_ | refine Eq.trans ?_ (upF_id rfl)))) hP) (sD_eq (mW_cg (by repeat (first | with_reducible rfl | with_reducible refine upd_cg ?_ | refine Eq.trans ?_ (upd_id rfl))) (by repeat (first | with_reducible rfl | with_reducible refine upF_cg ?_ | refine Eq.trans ?_ (upF_id rfl)))) hD) hS | exact K 147 ls _ _ _ _ _ _ _ _ _ _ _ _ _ _ _ _ _ _ _ _ _ _ _ _ H _ hr dX12_tell_147 hP hD hS
          · replace hr := iteF c35 hr
            refine lv_aload_n hx hb dX12_tell_38 rfl (lv_at hl 0 rfl) ?_
            refine va_get (D := (dC, dI)) (ci := 12) (v := .ref (q 54)) (C := RX12) (T := TX12) (N := 71) hx hb hts inX12 hown hK hP 0 rfl rfl 54 (by decide) (hts (.fieldLink RX12 119 "SpellTurnerModel" "formMany" "[I") im_107) (fun _ h9 => h9) rfl dX12_tell_39 ?_
            refine lv_bipush (v := 7) hx hb dX12_tell_42 (by decide +kernel) ?_
            refine lv_iload hx hb dX12_tell_44 (lv_at hl 4 rfl) ?_
            refine lv_imul hx hb dX12_tell_46 ?_
            refine lv_iload_n hx hb dX12_tell_47 rfl (lv_at hl 1 rfl) ?_
            refine lv_iadd hx hb dX12_tell_48 ?_
            replace hr := iteS hr
            obtain ⟨hi49, hr⟩ := hr
            refine va_iald (f := c21_F54) hx hb hK hP 35 1 rfl rfl (inbV hi49) dX12_tell_49 ?_
            refine lv_topi (fun x50 ex50 => ?_)
            replace hr := vlS hr x50 ex50
            clear ex50
            refine lv_istore (lv' := [(5, .int x50), (0, .ref h0), (1, .int p0), (2, .int p1), (3, .int y29_3), (4, .int y29_4)]) hx hb dX12_tell_50 hl (by decide) rfl (fun ls hl => ?_)
            refine lv_iload_n hx hb dX12_tell_52 rfl (lv_at hl 3 rfl) ?_
            replace hr := jnS hr
            obtain ⟨j125, hj125, hr⟩ := hr
            have Jj125 : ∀ (t125_0 : Int32) (H : Heap) (locs : List Loc) (ls : Array Slot), j125 t125_0 = some (r, c_g23, c_g27, c_g30, c_g34, c_g36, c_g39, c_g51, c_F22, c_F24, c_F25, c_F26, c_F28, c_F29, c_F31, c_F32, c_F33, c_F37, c_F38, c_F40, c_F41, c_F52, c_F53, c_F54) → va_P (dC, dI) vwCl (mW h0 kB kI kZ q (upd (upd (upd (upd (upd (upd (upd g 23 c21_g23) 27 c21_g27) 30 c21_g30) 34 c21_g34) 36 c21_g36) 39 c21_g39) 51 c21_g51) (upF (upF (upF (upF (upF (upF (upF (upF (upF (upF (upF (upF (upF (upF (upF (upF F 22 c21_F22) 24 c21_F24) 25 c21_F25) 26 c21_F26) 28 c21_F28) 29 c21_F29) 31 c21_F31) 32 c21_F32) 33 c21_F33) 37 c21_F37) 38 c21_F38) 40 c21_F40) 41 c21_F41) 52 c21_F52) 53 c21_F53) 54 c21_F54)) H → va_D A (mW h0 kB kI kZ q (upd (upd (upd (upd (upd (upd (upd g 23 c21_g23) 27 c21_g27) 30 c21_g30) 34 c21_g34) 36 c21_g36) 39 c21_g39) 51 c21_g51) (upF (upF (upF (upF (upF (upF (upF (upF (upF (upF (upF (upF (upF (upF (upF (upF F 22 c21_F22) 24 c21_F24) 25 c21_F25) 26 c21_F26) 28 c21_F28) 29 c21_F29) 31 c21_F31) 32 c21_F32) 33 c21_F33) 37 c21_F37) 38 c21_F38) 40 c21_F40) 41 c21_F41) 52 c21_F52) 53 c21_F53) 54 c21_F54)) → va_S A s.heap H locs → lv_has ls 7 [(0, .ref h0), (1, .int p0), (2, .int p1), (3, .int y29_3), (4, .int y29_4)] → W p l e ({ frames := 48, cells := 0, slots := 0, locals := 1171 } : Room) s m args below meth c H locs 0 0 Q (F0 m 125 ls [.int t125_0]) := by
              intro t125_0 H locs ls hr hP hD hS hl
              rw [hj125] at hr
              refine lv_istore (lv' := [(6, .int t125_0), (0, .ref h0), (1, .int p0), (2, .int p1), (3, .int y29_3), (4, .int y29_4)]) hx hb dX12_tell_125 hl (by decide) rfl (fun ls hl => ?_)
              refine lv_iload_n hx hb dX12_tell_127 rfl (lv_at hl 4 rfl) ?_
              refine lv_iload hx hb dX12_tell_128 (lv_at hl 0 rfl) ?_
              replace hr := jnS hr
              obtain ⟨j138, hj138, hr⟩ := hr
              have Jj138 : ∀ (t138_0 : Int32) (H : Heap) (locs : List Loc) (ls : Array Slot), j138 t138_0 = some (r, c_g23, c_g27, c_g30, c_g34, c_g36, c_g39, c_g51, c_F22, c_F24, c_F25, c_F26, c_F28, c_F29, c_F31, c_F32, c_F33, c_F37, c_F38, c_F40, c_F41, c_F52, c_F53, c_F54) → va_P (dC, dI) vwCl (mW h0 kB kI kZ q (upd (upd (upd (upd (upd (upd (upd g 23 c21_g23) 27 c21_g27) 30 c21_g30) 34 c21_g34) 36 c21_g36) 39 c21_g39) 51 c21_g51) (upF (upF (upF (upF (upF (upF (upF (upF (upF (upF (upF (upF (upF (upF (upF (upF F 22 c21_F22) 24 c21_F24) 25 c21_F25) 26 c21_F26) 28 c21_F28) 29 c21_F29) 31 c21_F31) 32 c21_F32) 33 c21_F33) 37 c21_F37) 38 c21_F38) 40 c21_F40) 41 c21_F41) 52 c21_F52) 53 c21_F53) 54 c21_F54)) H → va_D A (mW h0 kB kI kZ q (upd (upd (upd (upd (upd (upd (upd g 23 c21_g23) 27 c21_g27) 30 c21_g30) 34 c21_g34) 36 c21_g36) 39 c21_g39) 51 c21_g51) (upF (upF (upF (upF (upF (upF (upF (upF (upF (upF (upF (upF (upF (upF (upF (upF F 22 c21_F22) 24 c21_F24) 25 c21_F25) 26 c21_F26) 28 c21_F28) 29 c21_F29) 31 c21_F31) 32 c21_F32) 33 c21_F33) 37 c21_F37) 38 c21_F38) 40 c21_F40) 41 c21_F41) 52 c21_F52) 53 c21_F53) 54 c21_F54)) → va_S A s.heap H locs → lv_has ls 7 [(0, .ref h0), (1, .int p0), (2, .int p1), (4, .int y29_4)] → W p l e ({ frames := 48, cells := 0, slots := 0, locals := 1171 } : Room) s m args below meth c H locs 0 0 Q (F0 m 138 ls [.int t138_0, .int y29_3]) := by
                intro t138_0 H locs ls hr hP hD hS hl
                rw [hj138] at hr
                refine lv_iadd hx hb dX12_tell_138 ?_
                refine lv_topi (fun x139 ex139 => ?_)
                replace hr := vlS hr x139 ex139
                clear ex139
                refine lv_istore_n (lv' := [(3, .int x139), (0, .ref h0), (1, .int p0), (2, .int p1), (4, .int y29_4)]) hx hb dX12_tell_139 rfl hl (by decide) rfl (fun ls hl => ?_)
                refine lv_iinc (v := (y29_4 + 1)) (lv' := [(4, .int (y29_4 + 1)), (3, .int x139), (0, .ref h0), (1, .int p0), (2, .int p1)]) hx hb dX12_tell_140 hl (k := 4) rfl rfl (by decide) rfl (fun ls hl => ?_)
                refine lv_goto (tgt := 29) hx hb dX12_tell_143 (by decide) ?_
                exact ih29 x139 (y29_4 + 1) H _ ls hr hP hD hS (lv_sub hl [2, 3, 4, 1, 0] rfl)
              refine lv_if_eq (tgt := 137) hx hb dX12_tell_130 (by decide) (fun c130 => ?_) (fun c130 => ?_)
              · replace hr := iteT c130 hr
                refine lv_iconst (v := 0) hx hb dX12_tell_137 (by decide +kernel) ?_
                exact Jj138 0 H _ ls hr hP hD hS (lv_sub hl [1, 2, 3, 5] rfl)
              · replace hr := iteF c130 hr
                refine lv_iconst (v := 1) hx hb dX12_tell_133 (by decide +kernel) ?_
                refine lv_goto (tgt := 138) hx hb dX12_tell_134 (by decide) ?_
                exact Jj138 1 H _ ls hr hP hD hS (lv_sub hl [1, 2, 3, 5] rfl)
            refine lv_if_ne (tgt := 70) hx hb dX12_tell_53 (by decide) (fun c53 => ?_) (fun c53 => ?_)
            · replace hr := iteF c53 hr
              refine lv_iload_n hx hb dX12_tell_70 rfl (lv_at hl 3 rfl) ?_
              refine lv_iconst (v := 1) hx hb dX12_tell_71 (by decide +kernel) ?_
              refine lv_icmp_ne (tgt := 88) hx hb dX12_tell_72 (by decide) (fun c72 => ?_) (fun c72 => ?_)
              · replace hr := iteF c72 hr
                refine lv_iload hx hb dX12_tell_88 (lv_at hl 0 rfl) ?_
                refine lv_iconst (v := 1) hx hb dX12_tell_90 (by decide +kernel) ?_
                replace hr := jnS hr
                obtain ⟨j124, hj124, hr⟩ := hr
                have Jj124 : ∀ (H : Heap) (locs : List Loc) (ls : Array Slot), j124 () = some (r, c_g23, c_g27, c_g30, c_g34, c_g36, c_g39, c_g51, c_F22, c_F24, c_F25, c_F26, c_F28, c_F29, c_F31, c_F32, c_F33, c_F37, c_F38, c_F40, c_F41, c_F52, c_F53, c_F54) → va_P (dC, dI) vwCl (mW h0 kB kI kZ q (upd (upd (upd (upd (upd (upd (upd g 23 c21_g23) 27 c21_g27) 30 c21_g30) 34 c21_g34) 36 c21_g36) 39 c21_g39) 51 c21_g51) (upF (upF (upF (upF (upF (upF (upF (upF (upF (upF (upF (upF (upF (upF (upF (upF F 22 c21_F22) 24 c21_F24) 25 c21_F25) 26 c21_F26) 28 c21_F28) 29 c21_F29) 31 c21_F31) 32 c21_F32) 33 c21_F33) 37 c21_F37) 38 c21_F38) 40 c21_F40) 41 c21_F41) 52 c21_F52) 53 c21_F53) 54 c21_F54)) H → va_D A (mW h0 kB kI kZ q (upd (upd (upd (upd (upd (upd (upd g 23 c21_g23) 27 c21_g27) 30 c21_g30) 34 c21_g34) 36 c21_g36) 39 c21_g39) 51 c21_g51) (upF (upF (upF (upF (upF (upF (upF (upF (upF (upF (upF (upF (upF (upF (upF (upF F 22 c21_F22) 24 c21_F24) 25 c21_F25) 26 c21_F26) 28 c21_F28) 29 c21_F29) 31 c21_F31) 32 c21_F32) 33 c21_F33) 37 c21_F37) 38 c21_F38) 40 c21_F40) 41 c21_F41) 52 c21_F52) 53 c21_F53) 54 c21_F54)) → va_S A s.heap H locs → lv_has ls 7 [(0, .ref h0), (1, .int p0), (2, .int p1), (3, .int y29_3), (4, .int y29_4)] → W p l e ({ frames := 48, cells := 0, slots := 0, locals := 1171 } : Room) s m args below meth c H locs 0 0 Q (F0 m 124 ls []) := by
                  intro H locs ls hr hP hD hS hl
                  rw [hj124] at hr
                  refine lv_iconst (v := 0) hx hb dX12_tell_124 (by decide +kernel) ?_
                  exact Jj125 0 H _ ls hr hP hD hS (lv_sub hl [0, 1, 2, 3, 4] rfl)
                refine lv_icmp_ne (tgt := 124) hx hb dX12_tell_91 (by decide) (fun c91 => ?_) (fun c91 => ?_)
                · replace hr := iteF c91 hr
                  exact Jj124 H _ ls hr hP hD hS (lv_sub hl [1, 2, 3, 4, 5] rfl)
                · replace hr := iteT c91 hr
                  refine lv_aload_n hx hb dX12_tell_94 rfl (lv_at hl 1 rfl) ?_
                  refine lv_iload hx hb dX12_tell_95 (lv_at hl 5 rfl) ?_
                  refine lv_iload_n hx hb dX12_tell_97 rfl (lv_at hl 2 rfl) ?_
                  refine lv_aload_n hx hb dX12_tell_98 rfl (lv_at hl 1 rfl) ?_
                  refine va_get (D := (dC, dI)) (ci := 12) (v := .ref (q 49)) (C := RX12) (T := TX12) (N := 71) hx hb hts inX12 hown hK hP 0 rfl rfl 49 (by decide) (hts (.fieldLink RX12 106 "SpellTurnerModel" "bookText" "[B") im_87) (fun _ h9 => h9) rfl dX12_tell_99 ?_
                  refine lv_bipush (v := 24) hx hb dX12_tell_102 (by decide +kernel) ?_
                  refine lv_iload hx hb dX12_tell_104 (lv_at hl 5 rfl) ?_
                  refine lv_imul hx hb dX12_tell_106 ?_
                  refine lv_aload_n hx hb dX12_tell_107 rfl (lv_at hl 1 rfl) ?_
                  refine va_get (D := (dC, dI)) (ci := 12) (v := .ref (q 50)) (C := RX12) (T := TX12) (N := 71) hx hb hts inX12 hown hK hP 0 rfl rfl 50 (by decide) (hts (.fieldLink RX12 109 "SpellTurnerModel" "bookSize" "[I") im_86) (fun _ h9 => h9) rfl dX12_tell_108 ?_
                  refine lv_iload hx hb dX12_tell_111 (lv_at hl 5 rfl) ?_
                  replace hr := iteS hr
                  obtain ⟨hi113, hr⟩ := hr
                  refine va_iald (f := (F 50)) hx hb hK hP 32 1 rfl rfl (inbV hi113) dX12_tell_113 ?_
                  replace hr := b1S hr
                  obtain ⟨r114z, hc114, hr⟩ := hr
                  have hFc := fr_all hD hS hA
                  refine va_calli (va_runV (As := [.int y29_4, .int p0, .ref (q 49), .int (24 * y29_4), .int ((F 50) (Int32.toNatClampNeg y29_4))]) (rest := []) ⟨hx, hb, hml, hown, hts⟩ (m_hasForm_49 l dC dI H.size h0 kB kI kZ q (upd (upd (upd (upd (upd (upd (upd g 23 c21_g23) 27 c21_g27) 30 c21_g30) 34 c21_g34) 36 c21_g36) 39 c21_g39) 51 c21_g51) (upF (upF (upF (upF (upF (upF (upF (upF (upF (upF (upF (upF (upF (upF (upF (upF F 22 c21_F22) 24 c21_F24) 25 c21_F25) 26 c21_F26) 28 c21_F28) 29 c21_F29) 31 c21_F31) 32 c21_F32) 33 c21_F33) 37 c21_F37) 38 c21_F38) 40 c21_F40) 41 c21_F41) 52 c21_F52) 53 c21_F53) 54 c21_F54) y29_4 p0 (24 * y29_4) ((F 50) (Int32.toNatClampNeg y29_4)) r114z hc114) (cwV 5 hts gw_X12_hasForm_321 rfl rfl rfl (by decide +kernel) ⟨Nat.le_of_ble_eq_true rfl, Nat.le_of_ble_eq_true rfl⟩) ⟨fun a U g mk q => by obtain ⟨q0, q1, qP, qK, qD⟩ := q; exact ⟨q0, q1, qP, va_K.moved (u := U) (U := U.calling g mk a) (Vm.Alike.refl U.vm) qK, qD⟩, va_recv hK hP (ci := 12) (q0 := 0) rfl rfl, fun U hU hW => ⟨rfl, by rw [hU], by rw [hU]; exact hP, va_K.moved hW.alike hK, hD.weaken (fun _ _ _ _ => trivial)⟩⟩ rfl rfl hl.1 rfl (lv_room (Nat.le_of_ble_eq_true rfl)) dX12_tell_114 ⟨Nat.le_of_ble_eq_true rfl, Nat.le_of_ble_eq_true rfl⟩) hS (fun q _ h => hFc q h) hFc (fun r114 u t H1 locs ht hvm hw hB hz1 hk1 hS => ?_)
                  replace hw : r114 = r114z := hw
                  subst hw
                  obtain ⟨hP1, hK1, hD1⟩ := hB
                  rw [ht] at hP1
                  obtain ⟨hP, hD⟩ := jn_all (w1 := (mW h0 kB kI kZ q (upd (upd (upd (upd (upd (upd (upd g 23 c21_g23) 27 c21_g27) 30 c21_g30) 34 c21_g34) 36 c21_g36) 39 c21_g39) 51 c21_g51) (upF (upF (upF (upF (upF (upF (upF (upF (upF (upF (upF (upF (upF (upF (upF (upF F 22 c21_F22) 24 c21_F24) 25 c21_F25) 26 c21_F26) 28 c21_F28) 29 c21_F29) 31 c21_F31) 32 c21_F32) 33 c21_F33) 37 c21_F37) 38 c21_F38) 40 c21_F40) 41 c21_F41) 52 c21_F52) 53 c21_F53) 54 c21_F54))) hFc hP1 hD1
                  clear hFc hP1 hK1 hD1 hk1 hz1 ht hvm
                  generalize H1 = H at hP hS ⊢
                  have hP : va_P (dC, dI) vwCl (mW h0 kB kI kZ q (upd (upd (upd (upd (upd (upd (upd g 23 c21_g23) 27 c21_g27) 30 c21_g30) 34 c21_g34) 36 c21_g36) 39 c21_g39) 51 c21_g51) (upF (upF (upF (upF (upF (upF (upF (upF (upF (upF (upF (upF (upF (upF (upF (upF F 22 c21_F22) 24 c21_F24) 25 c21_F25) 26 c21_F26) 28 c21_F28) 29 c21_F29) 31 c21_F31) 32 c21_F32) 33 c21_F33) 37 c21_F37) 38 c21_F38) 40 c21_F40) 41 c21_F41) 52 c21_F52) 53 c21_F53) 54 c21_F54)) H := hP
                  have hD : va_D A (mW h0 kB kI kZ q (upd (upd (upd (upd (upd (upd (upd g 23 c21_g23) 27 c21_g27) 30 c21_g30) 34 c21_g34) 36 c21_g36) 39 c21_g39) 51 c21_g51) (upF (upF (upF (upF (upF (upF (upF (upF (upF (upF (upF (upF (upF (upF (upF (upF F 22 c21_F22) 24 c21_F24) 25 c21_F25) 26 c21_F26) 28 c21_F28) 29 c21_F29) 31 c21_F31) 32 c21_F32) 33 c21_F33) 37 c21_F37) 38 c21_F38) 40 c21_F40) 41 c21_F41) 52 c21_F52) 53 c21_F53) 54 c21_F54)) := hD
                  refine lv_if_eq (tgt := 124) hx hb dX12_tell_117 (by decide) (fun c117 => ?_) (fun c117 => ?_)
                  · replace hr := iteT c117 hr
                    exact Jj124 H _ ls hr hP hD hS (lv_sub hl [1, 2, 3, 4, 5] rfl)
                  · replace hr := iteF c117 hr
                    refine lv_iconst (v := 1) hx hb dX12_tell_120 (by decide +kernel) ?_
                    refine lv_goto (tgt := 125) hx hb dX12_tell_121 (by decide) ?_
                    exact Jj125 1 H _ ls hr hP hD hS (lv_sub hl [1, 2, 3, 4, 5] rfl)
              · replace hr := iteT c72 hr
                refine lv_iload hx hb dX12_tell_75 (lv_at hl 0 rfl) ?_
                refine lv_if_ne (tgt := 84) hx hb dX12_tell_77 (by decide) (fun c77 => ?_) (fun c77 => ?_)
                · replace hr := iteF c77 hr
                  refine lv_iconst (v := 0) hx hb dX12_tell_84 (by decide +kernel) ?_
                  refine lv_goto (tgt := 125) hx hb dX12_tell_85 (by decide) ?_
                  exact Jj125 0 H _ ls hr hP hD hS (lv_sub hl [1, 2, 3, 4, 5] rfl)
                · replace hr := iteT c77 hr
                  refine lv_iconst (v := 1) hx hb dX12_tell_80 (by decide +kernel) ?_
                  refine lv_goto (tgt := 125) hx hb dX12_tell_81 (by decide) ?_
                  exact Jj125 1 H _ ls hr hP hD hS (lv_sub hl [1, 2, 3, 4, 5] rfl)
            · replace hr := iteT c53 hr
              refine lv_iload hx hb dX12_tell_56 (lv_at hl 0 rfl) ?_
              refine lv_iconst (v := 1) hx hb dX12_tell_58 (by decide +kernel) ?_
              refine lv_icmp_le (tgt := 66) hx hb dX12_tell_59 (by decide) (fun c59 => ?_) (fun c59 => ?_)
              · replace hr := iteT c59 hr
                refine lv_iconst (v := 0) hx hb dX12_tell_66 (by decide +kernel) ?_
                refine lv_goto (tgt := 125) hx hb dX12_tell_67 (by decide) ?_
                exact Jj125 0 H _ ls hr hP hD hS (lv_sub hl [1, 2, 3, 4, 5] rfl)
              · replace hr := iteF c59 hr
                refine lv_iconst (v := 1) hx hb dX12_tell_62 (by decide +kernel) ?_
                refine lv_goto (tgt := 125) hx hb dX12_tell_63 (by decide) ?_
                exact Jj125 1 H _ ls hr hP hD hS (lv_sub hl [1, 2, 3, 4, 5] rfl)
      exact lp29 NN 0 0 H _ ls hr hP hD hS (lv_sub hl [2, 3, 4, 1, 0] rfl)
    · replace hr := iteT c14 hr
      exact Jj17 H _ ls hr hP hD hS (lv_sub hl [] rfl)
set_option maxHeartbeats 4000000 in
set_option maxRecDepth 100000 in
theorem m_tell (l : Launch) (dC : Nat → ClassId) (dI : Nat → Nat → Nat) (sz : Nat) (h0 : Nat) (kB kI kZ : ClassId) (q : Nat → Nat) (g : Nat → Int32) (F : Nat → Nat → Int32) (p0 : Int32) (p1 : Int32) (r : Int32) (c_g23 : Int32) (c_g27 : Int32) (c_g30 : Int32) (c_g34 : Int32) (c_g36 : Int32) (c_g39 : Int32) (c_g51 : Int32) (c_F22 : (Nat → Int32)) (c_F24 : (Nat → Int32)) (c_F25 : (Nat → Int32)) (c_F26 : (Nat → Int32)) (c_F28 : (Nat → Int32)) (c_F29 : (Nat → Int32)) (c_F31 : (Nat → Int32)) (c_F32 : (Nat → Int32)) (c_F33 : (Nat → Int32)) (c_F37 : (Nat → Int32)) (c_F38 : (Nat → Int32)) (c_F40 : (Nat → Int32)) (c_F41 : (Nat → Int32)) (c_F52 : (Nat → Int32)) (c_F53 : (Nat → Int32)) (c_F54 : (Nat → Int32)) (hr : f_tell g F p0 p1 = some (r, c_g23, c_g27, c_g30, c_g34, c_g36, c_g39, c_g51, c_F22, c_F24, c_F25, c_F26, c_F28, c_F29, c_F31, c_F32, c_F33, c_F37, c_F38, c_F40, c_F41, c_F52, c_F53, c_F54)) : Met l yX12_tell vmX12_tell ({ frames := 48, cells := 0, slots := 0, locals := 1171 } : Room) (va_Pc [.ref h0, .int p0, .int p1] (fun U => U.heap.size = sz ∧ va_P (dC, dI) vwCl (mW h0 kB kI kZ q g F) U.heap ∧ va_K (dC, dI) vwCl (mT kB kI kZ) U ∧ va_D (fun _ => True) (mW h0 kB kI kZ q g F))) (va_Qi (fun (rz : Int32) (_ : Unit) => rz = r) (fun _ t => va_P (dC, dI) vwCl (mW h0 kB kI kZ q (upd (upd (upd (upd (upd (upd (upd g 23 c_g23) 27 c_g27) 30 c_g30) 34 c_g34) 36 c_g36) 39 c_g39) 51 c_g51) (upF (upF (upF (upF (upF (upF (upF (upF (upF (upF (upF (upF (upF (upF (upF (upF F 22 c_F22) 24 c_F24) 25 c_F25) 26 c_F26) 28 c_F28) 29 c_F29) 31 c_F31) 32 c_F32) 33 c_F33) 37 c_F37) 38 c_F38) 40 c_F40) 41 c_F41) 52 c_F52) 53 c_F53) 54 c_F54)) t.heap ∧ va_K (dC, dI) vwCl (mT kB kI kZ) t ∧ va_D (va_A (mW h0 kB kI kZ q g F) sz) (mW h0 kB kI kZ q (upd (upd (upd (upd (upd (upd (upd g 23 c_g23) 27 c_g27) 30 c_g30) 34 c_g34) 36 c_g36) 39 c_g39) 51 c_g51) (upF (upF (upF (upF (upF (upF (upF (upF (upF (upF (upF (upF (upF (upF (upF (upF F 22 c_F22) 24 c_F24) 25 c_F25) 26 c_F26) 28 c_F28) 29 c_F29) 31 c_F31) 32 c_F32) 33 c_F33) 37 c_F37) 38 c_F38) 40 c_F40) 41 c_F41) 52 c_F52) 53 c_F53) 54 c_F54))) (va_A (mW h0 kB kI kZ q g F) sz)) 0 0 (va_A (mW h0 kB kI kZ q g F) sz) := by
  refine Met.ofW (cc := cX12_tell) (maxL := 7) (ret := (some .int)) (by decide) rfl ?_
  intro p e s m args below meth c s₁ B hml hv
  obtain ⟨rfl, hsz, hP, hK, hD0⟩ := hv
  have hx := B.exec
  have hb := B.bytes
  have hrt := B.returns
  have hts := atoms_spec (ws := vmX12_tell) B.pre
  have hown : s.vm.findClass RX12 = some m.cls := findClass_of_methodNamed B.named
  subst hsz
  have hD := hD0.self (sz := s.heap.size)
  generalize hAe : va_A (mW h0 kB kI kZ q g F) s.heap.size = A at hD ⊢
  have hA : ∀ q : Nat, s.heap.size ≤ q → A q := fun q h => by rw [← hAe]; exact Or.inr h
  have hS : va_S A s.heap s.heap [] := va_S.rf
  have hl := lv_entry ([.ref h0, .int p0, .int p1]) (n := 7) (Nat.le_of_ble_eq_true rfl)
  rw [lg_entry_eq]
  generalize (lg_sl ([.ref h0, .int p0, .int p1]) ++ List.replicate (7 - (lg_sl ([.ref h0, .int p0, .int p1])).length) Slot.unset).toArray = ls at hl ⊢
  exact bm_tell p0 p1 r c_g23 c_g27 c_g30 c_g34 c_g36 c_g39 c_g51 c_F22 c_F24 c_F25 c_F26 c_F28 c_F29 c_F31 c_F32 c_F33 c_F37 c_F38 c_F40 c_F41 c_F52 c_F53 c_F54 hr hx hb hml hown hts hA hK hP hD hS hl (fun pc ls rz c_g23z c_g27z c_g30z c_g34z c_g36z c_g39z c_g51z c_F22z c_F24z c_F25z c_F26z c_F28z c_F29z c_F31z c_F32z c_F33z c_F37z c_F38z c_F40z c_F41z c_F52z c_F53z c_F54z H locs he hd hP hD hS => by cases he; exact W.iret (v := r) hx hb hrt (fun t ht hW => ⟨⟨r, (), rfl, rfl, by rw [ht]; exact hP, va_K.moved hW.alike hK, hD⟩, hS.F ht⟩) hS.2.2 hd)
set_option maxHeartbeats 4000000 in
set_option maxRecDepth 100000 in
theorem bm_takeWord_52 {p : Program} {l : Launch} {e : Env} {s : State} {m : MethodId} {args : Array Value} {below : List Frame} {meth : Method} {c : Code} {Q : State → Prop} {A : Nat → Prop} {dC : Nat → ClassId} {dI : Nat → Nat → Nat} {h0 : Nat} {kB kI kZ : ClassId} {q : Nat → Nat} {g : Nat → Int32} {F : Nat → Nat → Int32} {H : Heap} {locs : List Loc} {ls : Array Slot} (p1 : Int32) (p2 : Int32) (c_g23 : Int32) (c_F22 : (Nat → Int32)) (hr : f_takeWord g F (F 52) 201600 p1 p2 = some (c_g23, c_F22)) (hx : p.tables.exec = Jvm.exec) (hb : c.code = cX12_takeWord) (hml : c.maxLocals = 5) (hown : s.vm.findClass RX12 = some m.cls) (hts : ∀ w ∈ vmX12_takeWord, w.before args s = true) (hA : ∀ q : Nat, s.heap.size ≤ q → A q) (hK : va_K (dC, dI) vwCl (mT kB kI kZ) s) (hP : va_P (dC, dI) vwCl (mW h0 kB kI kZ q g F) H) (hD : va_D A (mW h0 kB kI kZ q g F)) (hS : va_S A s.heap H locs) (hl : lv_has ls 5 [(0, .ref h0), (1, .ref (q 52)), (2, .int p1), (3, .int p2)])
    (K : ∀ (pc : Nat) (ls : Array Slot) (c_g23z : Int32) (c_F22z : (Nat → Int32)) (H : Heap) (locs : List Loc), some (c_g23z, c_F22z) = some (c_g23, c_F22) → decode cX12_takeWord pc = .ok (.return_, 1) → va_P (dC, dI) vwCl (mW h0 kB kI kZ q (upd g 23 c_g23z) (upF F 22 c_F22z)) H → va_D A (mW h0 kB kI kZ q (upd g 23 c_g23z) (upF F 22 c_F22z)) → va_S A s.heap H locs → W p l e ({ frames := 2, cells := 0, slots := 0, locals := 60 } : Room) s m args below meth c H locs 0 0 Q (F0 m pc ls [])) : W p l e ({ frames := 2, cells := 0, slots := 0, locals := 60 } : Room) s m args below meth c H locs 0 0 Q (F0 m 0 ls []) := by
  unfold f_takeWord at hr
  refine lv_iconst (v := 0) hx hb dX12_takeWord_0 (by decide +kernel) ?_
  refine lv_istore (lv' := [(4, .int 0), (0, .ref h0), (1, .ref (q 52)), (2, .int p1), (3, .int p2)]) hx hb dX12_takeWord_1 hl (by decide) rfl (fun ls hl => ?_)
  have lp3 : ∀ (n3 : Nat) (y3_4 : Int32) (d3_F22 : (Nat → Int32)) (H : Heap) (locs : List Loc) (ls : Array Slot), L_takeWord_3 (F 52) 201600 p1 p2 n3 y3_4 d3_F22 = some (c_g23, c_F22) → va_P (dC, dI) vwCl (mW h0 kB kI kZ q g (upF F 22 d3_F22)) H → va_D A (mW h0 kB kI kZ q g (upF F 22 d3_F22)) → va_S A s.heap H locs → lv_has ls 5 [(0, .ref h0), (1, .ref (q 52)), (2, .int p1), (3, .int p2), (4, .int y3_4)] → W p l e ({ frames := 2, cells := 0, slots := 0, locals := 60 } : Room) s m args below meth c H locs 0 0 Q (F0 m 3 ls []) := by
    intro n3
    induction n3 with
    | zero => intro y3_4 d3_F22 H locs ls hr; exact nomatch (show none = some (c_g23, c_F22) from hr)
    | succ n3 ih3 =>
      intro y3_4 d3_F22 H locs ls hr hP hD hS hl
      replace hr : B_takeWord_3 (F 52) 201600 p1 p2 (L_takeWord_3 (F 52) 201600 p1 p2 n3) y3_4 d3_F22 = some (c_g23, c_F22) := hr
      unfold B_takeWord_3 at hr
      refine lv_iload hx hb dX12_takeWord_3 (lv_at hl 4 rfl) ?_
      refine lv_iload_n hx hb dX12_takeWord_5 rfl (lv_at hl 3 rfl) ?_
      refine lv_icmp_ge (tgt := 28) hx hb dX12_takeWord_6 (by decide) (fun c6 => ?_) (fun c6 => ?_)
      · replace hr := iteT c6 hr
        refine lv_aload_n hx hb dX12_takeWord_28 rfl (lv_at hl 0 rfl) ?_
        refine lv_iload_n hx hb dX12_takeWord_29 rfl (lv_at hl 3 rfl) ?_
        refine va_put (D := (dC, dI)) (ci := 12) (v := .int p2) (ty := .int) (C := RX12) (T := TX12) (N := 71) hx hb hts inX12 tyX12 tyX12_ok nmX12 hown hK hP hD hS 0 rfl rfl 23 (by decide) (hts (.fieldLink RX12 244 "SpellTurnerModel" "letters" "I") im_49) (fun _ h9 => h9) rfl (by decide +kernel) rfl rfl (Nat.le_of_ble_eq_true rfl) dX12_takeWord_30 (fun H locs hP hD hS => ?_)
        have hP : va_P (dC, dI) vwCl (mW h0 kB kI kZ q (upd g 23 p2) (upF F 22 d3_F22)) H := by first | exact sP_g23 hP rfl | exact sP_g23 hP upd_same | exact hP
        have hD : va_D A (mW h0 kB kI kZ q (upd g 23 p2) (upF F 22 d3_F22)) := by first | exact sD_g23 hD rfl | exact sD_g23 hD upd_same | exact hD
        first | exact K 33 ls _ _ H _ hr dX12_takeWord_33 (sP_eq (mW_cg (by repeat (first | with_reducible rfl | with_reducible refine upd_cg ?_ | refine Eq.trans ?_ (upd_id rfl))) (by repeat (first | with_reducible rfl | with_reducible refine upF_cg ?_ | refine Eq.trans ?_ (upF_id rfl)))) hP) (sD_eq (mW_cg (by repeat (first | with_reducible rfl | with_reducible refine upd_cg ?_ | refine Eq.trans ?_ (upd_id rfl))) (by repeat (first | with_reducible rfl | with_reducible refine upF_cg ?_ | refine Eq.trans ?_ (upF_id rfl)))) hD) hS | exact K 33 ls _ _ H _ hr dX12_takeWord_33 hP hD hS
      · replace hr := iteF c6 hr
        refine lv_aload_n hx hb dX12_takeWord_9 rfl (lv_at hl 0 rfl) ?_
        refine va_get (D := (dC, dI)) (ci := 12) (v := .ref (q 22)) (C := RX12) (T := TX12) (N := 71) hx hb hts inX12 hown hK hP 0 rfl rfl 22 (by decide) (hts (.fieldLink RX12 55 "SpellTurnerModel" "word" "[B") im_50) (fun _ h9 => h9) rfl dX12_takeWord_10 ?_
        refine lv_iload hx hb dX12_takeWord_13 (lv_at hl 4 rfl) ?_
        refine lv_aload_n hx hb dX12_takeWord_15 rfl (lv_at hl 1 rfl) ?_
        refine lv_iload_n hx hb dX12_takeWord_16 rfl (lv_at hl 2 rfl) ?_
        refine lv_iload hx hb dX12_takeWord_17 (lv_at hl 4 rfl) ?_
        refine lv_iadd hx hb dX12_takeWord_19 ?_
        replace hr := iteS hr
        obtain ⟨hi20, hr⟩ := hr
        refine va_bald (f := (F 52)) hx hb hK hP 33 0 rfl rfl (inbV hi20) dX12_takeWord_20 ?_
        replace hr := iteS hr
        obtain ⟨hi21, hr⟩ := hr
        refine va_bast (f := d3_F22) hx hb hK hP hD hS 14 0 rfl rfl (inbV hi21) dX12_takeWord_21 (fun H locs hP hD hS => ?_)
        obtain ⟨w21, ew21, hP, hD⟩ : ∃ w21 : Nat → Int32, w21 = (upd d3_F22 (Int32.toNatClampNeg y3_4) (vp_nar .byte ((F 52) (Int32.toNatClampNeg (p1 + y3_4))))) ∧ va_P (dC, dI) vwCl (mW h0 kB kI kZ q g (upF F 22 w21)) H ∧ va_D A (mW h0 kB kI kZ q g (upF F 22 w21)) := ⟨(upd d3_F22 (Int32.toNatClampNeg y3_4) (vp_nar .byte ((F 52) (Int32.toNatClampNeg (p1 + y3_4))))), rfl, by first | exact sP_F22 hP upF_same | exact sP_F22 hP rfl | exact hP, by first | exact sD_F22 hD upF_same | exact sD_F22 hD rfl | exact hD⟩
        replace hr := vlS hr w21 ew21
        clear ew21
        refine lv_iinc (v := (y3_4 + 1)) (lv' := [(4, .int (y3_4 + 1)), (0, .ref h0), (1, .ref (q 52)), (2, .int p1), (3, .int p2)]) hx hb dX12_takeWord_22 hl (k := 4) rfl rfl (by decide) rfl (fun ls hl => ?_)
        refine lv_goto (tgt := 3) hx hb dX12_takeWord_25 (by decide) ?_
        exact ih3 (y3_4 + 1) w21 H _ ls hr hP hD hS (lv_sub hl [1, 2, 3, 4, 0] rfl)
  first | exact lp3 NN 0 (F 22) H _ ls hr (sP_eq (mW_cg (by repeat (first | with_reducible rfl | with_reducible refine upd_cg ?_ | refine Eq.trans ?_ (upd_id rfl))) (by repeat (first | with_reducible rfl | with_reducible refine upF_cg ?_ | refine Eq.trans ?_ (upF_id rfl)))) hP) (sD_eq (mW_cg (by repeat (first | with_reducible rfl | with_reducible refine upd_cg ?_ | refine Eq.trans ?_ (upd_id rfl))) (by repeat (first | with_reducible rfl | with_reducible refine upF_cg ?_ | refine Eq.trans ?_ (upF_id rfl)))) hD) hS (lv_sub hl [1, 2, 3, 4, 0] rfl) | exact lp3 NN 0 (F 22) H _ ls hr hP hD hS (lv_sub hl [1, 2, 3, 4, 0] rfl)
set_option maxHeartbeats 4000000 in
set_option maxRecDepth 100000 in
theorem m_takeWord_52 (l : Launch) (dC : Nat → ClassId) (dI : Nat → Nat → Nat) (sz : Nat) (h0 : Nat) (kB kI kZ : ClassId) (q : Nat → Nat) (g : Nat → Int32) (F : Nat → Nat → Int32) (p1 : Int32) (p2 : Int32) (c_g23 : Int32) (c_F22 : (Nat → Int32)) (hr : f_takeWord g F (F 52) 201600 p1 p2 = some (c_g23, c_F22)) : Met l yX12_takeWord vmX12_takeWord ({ frames := 2, cells := 0, slots := 0, locals := 60 } : Room) (va_Pc [.ref h0, .ref (q 52), .int p1, .int p2] (fun U => U.heap.size = sz ∧ va_P (dC, dI) vwCl (mW h0 kB kI kZ q g F) U.heap ∧ va_K (dC, dI) vwCl (mT kB kI kZ) U ∧ va_D (fun _ => True) (mW h0 kB kI kZ q g F))) (va_Qv (fun _ : Unit => True) (fun _ t => va_P (dC, dI) vwCl (mW h0 kB kI kZ q (upd g 23 c_g23) (upF F 22 c_F22)) t.heap ∧ va_K (dC, dI) vwCl (mT kB kI kZ) t ∧ va_D (va_A (mW h0 kB kI kZ q g F) sz) (mW h0 kB kI kZ q (upd g 23 c_g23) (upF F 22 c_F22))) (va_A (mW h0 kB kI kZ q g F) sz)) 0 0 (va_A (mW h0 kB kI kZ q g F) sz) := by
  refine Met.ofW (cc := cX12_takeWord) (maxL := 5) (ret := none) (by decide) rfl ?_
  intro p e s m args below meth c s₁ B hml hv
  obtain ⟨rfl, hsz, hP, hK, hD0⟩ := hv
  have hx := B.exec
  have hb := B.bytes
  have hrt := B.returns
  have hts := atoms_spec (ws := vmX12_takeWord) B.pre
  have hown : s.vm.findClass RX12 = some m.cls := findClass_of_methodNamed B.named
  subst hsz
  have hD := hD0.self (sz := s.heap.size)
  generalize hAe : va_A (mW h0 kB kI kZ q g F) s.heap.size = A at hD ⊢
  have hA : ∀ q : Nat, s.heap.size ≤ q → A q := fun q h => by rw [← hAe]; exact Or.inr h
  have hS : va_S A s.heap s.heap [] := va_S.rf
  have hl := lv_entry ([.ref h0, .ref (q 52), .int p1, .int p2]) (n := 5) (Nat.le_of_ble_eq_true rfl)
  rw [lg_entry_eq]
  generalize (lg_sl ([.ref h0, .ref (q 52), .int p1, .int p2]) ++ List.replicate (5 - (lg_sl ([.ref h0, .ref (q 52), .int p1, .int p2])).length) Slot.unset).toArray = ls at hl ⊢
  exact bm_takeWord_52 p1 p2 c_g23 c_F22 hr hx hb hml hown hts hA hK hP hD hS hl (fun pc ls c_g23z c_F22z H locs he hd hP hD hS => by cases he; exact W.vret hx hb hrt (fun t ht hW => ⟨⟨(), rfl, trivial, by rw [ht]; exact hP, va_K.moved hW.alike hK, hD⟩, hS.F ht⟩) hS.2.2 hd)
set_option maxHeartbeats 4000000 in
set_option maxRecDepth 100000 in
theorem bm_uses {p : Program} {l : Launch} {e : Env} {s : State} {m : MethodId} {args : Array Value} {below : List Frame} {meth : Method} {c : Code} {Q : State → Prop} {A : Nat → Prop} {dC : Nat → ClassId} {dI : Nat → Nat → Nat} {h0 : Nat} {kB kI kZ : ClassId} {q : Nat → Nat} {g : Nat → Int32} {F : Nat → Nat → Int32} {H : Heap} {locs : List Loc} {ls : Array Slot} (p0 : Int32) (p1 : Int32) (r : Int32) (c_g23 : Int32) (c_g27 : Int32) (c_g30 : Int32) (c_g34 : Int32) (c_g35 : Int32) (c_g36 : Int32) (c_g39 : Int32) (c_g51 : Int32) (c_F22 : (Nat → Int32)) (c_F24 : (Nat → Int32)) (c_F25 : (Nat → Int32)) (c_F26 : (Nat → Int32)) (c_F28 : (Nat → Int32)) (c_F29 : (Nat → Int32)) (c_F31 : (Nat → Int32)) (c_F32 : (Nat → Int32)) (c_F33 : (Nat → Int32)) (c_F37 : (Nat → Int32)) (c_F38 : (Nat → Int32)) (c_F40 : (Nat → Int32)) (c_F41 : (Nat → Int32)) (c_F52 : (Nat → Int32)) (c_F53 : (Nat → Int32)) (c_F54 : (Nat → Int32)) (hr : f_uses g F p0 p1 = some (r, c_g23, c_g27, c_g30, c_g34, c_g35, c_g36, c_g39, c_g51, c_F22, c_F24, c_F25, c_F26, c_F28, c_F29, c_F31, c_F32, c_F33, c_F37, c_F38, c_F40, c_F41, c_F52, c_F53, c_F54)) (hx : p.tables.exec = Jvm.exec) (hb : c.code = cX12_uses) (hml : c.maxLocals = 6) (hown : s.vm.findClass RX12 = some m.cls) (hts : ∀ w ∈ vmX12_uses, w.before args s = true) (hA : ∀ q : Nat, s.heap.size ≤ q → A q) (hK : va_K (dC, dI) vwCl (mT kB kI kZ) s) (hP : va_P (dC, dI) vwCl (mW h0 kB kI kZ q g F) H) (hD : va_D A (mW h0 kB kI kZ q g F)) (hS : va_S A s.heap H locs) (hl : lv_has ls 6 [(0, .ref h0), (1, .int p0), (2, .int p1)])
    (K : ∀ (pc : Nat) (ls : Array Slot) (rz : Int32) (c_g23z : Int32) (c_g27z : Int32) (c_g30z : Int32) (c_g34z : Int32) (c_g35z : Int32) (c_g36z : Int32) (c_g39z : Int32) (c_g51z : Int32) (c_F22z : (Nat → Int32)) (c_F24z : (Nat → Int32)) (c_F25z : (Nat → Int32)) (c_F26z : (Nat → Int32)) (c_F28z : (Nat → Int32)) (c_F29z : (Nat → Int32)) (c_F31z : (Nat → Int32)) (c_F32z : (Nat → Int32)) (c_F33z : (Nat → Int32)) (c_F37z : (Nat → Int32)) (c_F38z : (Nat → Int32)) (c_F40z : (Nat → Int32)) (c_F41z : (Nat → Int32)) (c_F52z : (Nat → Int32)) (c_F53z : (Nat → Int32)) (c_F54z : (Nat → Int32)) (H : Heap) (locs : List Loc), some (rz, c_g23z, c_g27z, c_g30z, c_g34z, c_g35z, c_g36z, c_g39z, c_g51z, c_F22z, c_F24z, c_F25z, c_F26z, c_F28z, c_F29z, c_F31z, c_F32z, c_F33z, c_F37z, c_F38z, c_F40z, c_F41z, c_F52z, c_F53z, c_F54z) = some (r, c_g23, c_g27, c_g30, c_g34, c_g35, c_g36, c_g39, c_g51, c_F22, c_F24, c_F25, c_F26, c_F28, c_F29, c_F31, c_F32, c_F33, c_F37, c_F38, c_F40, c_F41, c_F52, c_F53, c_F54) → decode cX12_uses pc = .ok (.ireturn, 1) → va_P (dC, dI) vwCl (mW h0 kB kI kZ q (upd (upd (upd (upd (upd (upd (upd (upd g 23 c_g23z) 27 c_g27z) 30 c_g30z) 34 c_g34z) 35 c_g35z) 36 c_g36z) 39 c_g39z) 51 c_g51z) (upF (upF (upF (upF (upF (upF (upF (upF (upF (upF (upF (upF (upF (upF (upF (upF F 22 c_F22z) 24 c_F24z) 25 c_F25z) 26 c_F26z) 28 c_F28z) 29 c_F29z) 31 c_F31z) 32 c_F32z) 33 c_F33z) 37 c_F37z) 38 c_F38z) 40 c_F40z) 41 c_F41z) 52 c_F52z) 53 c_F53z) 54 c_F54z)) H → va_D A (mW h0 kB kI kZ q (upd (upd (upd (upd (upd (upd (upd (upd g 23 c_g23z) 27 c_g27z) 30 c_g30z) 34 c_g34z) 35 c_g35z) 36 c_g36z) 39 c_g39z) 51 c_g51z) (upF (upF (upF (upF (upF (upF (upF (upF (upF (upF (upF (upF (upF (upF (upF (upF F 22 c_F22z) 24 c_F24z) 25 c_F25z) 26 c_F26z) 28 c_F28z) 29 c_F29z) 31 c_F31z) 32 c_F32z) 33 c_F33z) 37 c_F37z) 38 c_F38z) 40 c_F40z) 41 c_F41z) 52 c_F52z) 53 c_F53z) 54 c_F54z)) → va_S A s.heap H locs → W p l e ({ frames := 48, cells := 0, slots := 0, locals := 1171 } : Room) s m args below meth c H locs 0 0 Q (F0 m pc ls [.int rz])) : W p l e ({ frames := 48, cells := 0, slots := 0, locals := 1171 } : Room) s m args below meth c H locs 0 0 Q (F0 m 0 ls []) := by
  unfold f_uses at hr
  refine lv_iload_n hx hb dX12_uses_0 rfl (lv_at hl 1 rfl) ?_
  refine lv_iconst (v := 0) hx hb dX12_uses_1 (by decide +kernel) ?_
  refine lv_aload_n hx hb dX12_uses_2 rfl (lv_at hl 0 rfl) ?_
  refine va_get (D := (dC, dI)) (ci := 12) (v := .int (g 9)) (C := RX12) (T := TX12) (N := 71) hx hb hts inX12 hown hK hP 0 rfl rfl 9 (by decide) (hts (.fieldLink RX12 222 "SpellTurnerModel" "reforms" "I") im_40) (fun _ h9 => h9) rfl dX12_uses_3 ?_
  refine lv_iconst (v := 1) hx hb dX12_uses_6 (by decide +kernel) ?_
  refine lv_isub hx hb dX12_uses_7 ?_
  replace hr := b1S hr
  obtain ⟨r8z, hc8, hr⟩ := hr
  have hFc := fr_all hD hS hA
  refine va_calli (va_runS (As := [.int p0, .int 0, .int ((g 9) - 1)]) (rest := []) ⟨hx, hb, hml, hown, hts⟩ (m_in l dC dI H.size h0 kB kI kZ q g F p0 0 ((g 9) - 1) r8z hc8) (va_cwS 3 hts gw_X12_in_226 rfl rfl rfl (by decide +kernel) ⟨Nat.le_of_ble_eq_true rfl, Nat.le_of_ble_eq_true rfl⟩) ⟨fun a U g mk q => by obtain ⟨q0, q1, qP, qK, qD⟩ := q; exact ⟨q0, q1, qP, va_K.moved (u := U) (U := U.calling g mk a) (Vm.Alike.refl U.vm) qK, qD⟩, fun U hU hW => ⟨rfl, by rw [hU], by rw [hU]; exact hP, va_K.moved hW.alike hK, hD.weaken (fun _ _ _ _ => trivial)⟩⟩ rfl rfl hl.1 rfl (lv_room (Nat.le_of_ble_eq_true rfl)) dX12_uses_8 ⟨Nat.le_of_ble_eq_true rfl, Nat.le_of_ble_eq_true rfl⟩) hS (fun q _ h => hFc q h) hFc (fun r8 u t H1 locs ht hvm hw hB hz1 hk1 hS => ?_)
  replace hw : r8 = r8z := hw
  subst hw
  obtain ⟨hP1, hK1, hD1⟩ := hB
  rw [ht] at hP1
  obtain ⟨hP, hD⟩ := jn_all (w1 := (mW h0 kB kI kZ q g F)) hFc hP1 hD1
  clear hFc hP1 hK1 hD1 hk1 hz1 ht hvm
  generalize H1 = H at hP hS ⊢
  have hP : va_P (dC, dI) vwCl (mW h0 kB kI kZ q g F) H := hP
  have hD : va_D A (mW h0 kB kI kZ q g F) := hD
  replace hr := jnS hr
  obtain ⟨j30, hj30, hr⟩ := hr
  have Jj30 : ∀ (H : Heap) (locs : List Loc) (ls : Array Slot), j30 () = some (r, c_g23, c_g27, c_g30, c_g34, c_g35, c_g36, c_g39, c_g51, c_F22, c_F24, c_F25, c_F26, c_F28, c_F29, c_F31, c_F32, c_F33, c_F37, c_F38, c_F40, c_F41, c_F52, c_F53, c_F54) → va_P (dC, dI) vwCl (mW h0 kB kI kZ q g F) H → va_D A (mW h0 kB kI kZ q g F) → va_S A s.heap H locs → lv_has ls 6 [] → W p l e ({ frames := 48, cells := 0, slots := 0, locals := 1171 } : Room) s m args below meth c H locs 0 0 Q (F0 m 30 ls []) := by
    intro H locs ls hr hP hD hS hl
    rw [hj30] at hr
    refine lv_bipush (v := (-2)) hx hb dX12_uses_30 (by decide +kernel) ?_
    first | exact K 32 ls _ _ _ _ _ _ _ _ _ _ _ _ _ _ _ _ _ _ _ _ _ _ _ _ _ H _ hr dX12_uses_32 (sP_eq (mW_cg (by repeat (first | with_reducible rfl | with_reducible refine upd_cg ?_ | refine Eq.trans ?_ (upd_id rfl))) (by repeat (first | with_reducible rfl | with_reducible refine upF_cg ?_ | refine Eq.trans ?_ (upF_id rfl)))) hP) (sD_eq (mW_cg (by repeat (first | with_reducible rfl | with_reducible refine upd_cg ?_ | refine Eq.trans ?_ (upd_id rfl))) (by repeat (first | with_reducible rfl | with_reducible refine upF_cg ?_ | refine Eq.trans ?_ (upF_id rfl)))) hD) hS | exact K 32 ls _ _ _ _ _ _ _ _ _ _ _ _ _ _ _ _ _ _ _ _ _ _ _ _ _ H _ hr dX12_uses_32 hP hD hS
  refine lv_if_eq (tgt := 30) hx hb dX12_uses_11 (by decide) (fun c11 => ?_) (fun c11 => ?_)
  · replace hr := iteT c11 hr
    exact Jj30 H _ ls hr hP hD hS (lv_sub hl [] rfl)
  · replace hr := iteF c11 hr
    refine lv_iload_n hx hb dX12_uses_14 rfl (lv_at hl 2 rfl) ?_
    refine lv_iconst (v := 0) hx hb dX12_uses_15 (by decide +kernel) ?_
    refine lv_aload_n hx hb dX12_uses_16 rfl (lv_at hl 0 rfl) ?_
    refine va_get (D := (dC, dI)) (ci := 12) (v := .ref (q 11)) (C := RX12) (T := TX12) (N := 71) hx hb hts inX12 hown hK hP 0 rfl rfl 11 (by decide) (hts (.fieldLink RX12 21 "SpellTurnerModel" "laws" "[I") im_61) (fun _ h9 => h9) rfl dX12_uses_17 ?_
    refine lv_iload_n hx hb dX12_uses_20 rfl (lv_at hl 1 rfl) ?_
    replace hr := iteS hr
    obtain ⟨hi21, hr⟩ := hr
    refine va_iald (f := (F 11)) hx hb hK hP 3 1 rfl rfl (inbV hi21) dX12_uses_21 ?_
    refine lv_iconst (v := 1) hx hb dX12_uses_22 (by decide +kernel) ?_
    refine lv_isub hx hb dX12_uses_23 ?_
    replace hr := b1S hr
    obtain ⟨r24z, hc24, hr⟩ := hr
    have hFc := fr_all hD hS hA
    refine va_calli (va_runS (As := [.int p1, .int 0, .int (((F 11) (Int32.toNatClampNeg p0)) - 1)]) (rest := []) ⟨hx, hb, hml, hown, hts⟩ (m_in l dC dI H.size h0 kB kI kZ q g F p1 0 (((F 11) (Int32.toNatClampNeg p0)) - 1) r24z hc24) (va_cwS 3 hts gw_X12_in_226 rfl rfl rfl (by decide +kernel) ⟨Nat.le_of_ble_eq_true rfl, Nat.le_of_ble_eq_true rfl⟩) ⟨fun a U g mk q => by obtain ⟨q0, q1, qP, qK, qD⟩ := q; exact ⟨q0, q1, qP, va_K.moved (u := U) (U := U.calling g mk a) (Vm.Alike.refl U.vm) qK, qD⟩, fun U hU hW => ⟨rfl, by rw [hU], by rw [hU]; exact hP, va_K.moved hW.alike hK, hD.weaken (fun _ _ _ _ => trivial)⟩⟩ rfl rfl hl.1 rfl (lv_room (Nat.le_of_ble_eq_true rfl)) dX12_uses_24 ⟨Nat.le_of_ble_eq_true rfl, Nat.le_of_ble_eq_true rfl⟩) hS (fun q _ h => hFc q h) hFc (fun r24 u t H1 locs ht hvm hw hB hz1 hk1 hS => ?_)
    replace hw : r24 = r24z := hw
    subst hw
    obtain ⟨hP1, hK1, hD1⟩ := hB
    rw [ht] at hP1
    obtain ⟨hP, hD⟩ := jn_all (w1 := (mW h0 kB kI kZ q g F)) hFc hP1 hD1
    clear hFc hP1 hK1 hD1 hk1 hz1 ht hvm
    generalize H1 = H at hP hS ⊢
    have hP : va_P (dC, dI) vwCl (mW h0 kB kI kZ q g F) H := hP
    have hD : va_D A (mW h0 kB kI kZ q g F) := hD
    refine lv_if_ne (tgt := 33) hx hb dX12_uses_27 (by decide) (fun c27 => ?_) (fun c27 => ?_)
    · replace hr := iteF c27 hr
      refine lv_aload_n hx hb dX12_uses_33 rfl (lv_at hl 0 rfl) ?_
      replace hr := b23S hr
      obtain ⟨c34_g23, c34_g27, c34_g30, c34_g34, c34_g36, c34_g39, c34_g51, c34_F22, c34_F24, c34_F25, c34_F26, c34_F28, c34_F29, c34_F31, c34_F32, c34_F33, c34_F37, c34_F38, c34_F40, c34_F41, c34_F52, c34_F53, c34_F54, hc34, hr⟩ := hr
      have hFc := fr_all hD hS hA
      refine va_callv (va_runV (As := []) (rest := []) ⟨hx, hb, hml, hown, hts⟩ (m_make l dC dI H.size h0 kB kI kZ q g F c34_g23 c34_g27 c34_g30 c34_g34 c34_g36 c34_g39 c34_g51 c34_F22 c34_F24 c34_F25 c34_F26 c34_F28 c34_F29 c34_F31 c34_F32 c34_F33 c34_F37 c34_F38 c34_F40 c34_F41 c34_F52 c34_F53 c34_F54 hc34) (cwV 0 hts gw_X12_make_315 rfl rfl rfl (by decide +kernel) ⟨Nat.le_of_ble_eq_true rfl, Nat.le_of_ble_eq_true rfl⟩) ⟨fun a U g mk q => by obtain ⟨q0, q1, qP, qK, qD⟩ := q; exact ⟨q0, q1, qP, va_K.moved (u := U) (U := U.calling g mk a) (Vm.Alike.refl U.vm) qK, qD⟩, va_recv hK hP (ci := 12) (q0 := 0) rfl rfl, fun U hU hW => ⟨rfl, by rw [hU], by rw [hU]; exact hP, va_K.moved hW.alike hK, hD.weaken (fun _ _ _ _ => trivial)⟩⟩ rfl rfl hl.1 rfl (lv_room (Nat.le_of_ble_eq_true rfl)) dX12_uses_34 ⟨Nat.le_of_ble_eq_true rfl, Nat.le_of_ble_eq_true rfl⟩) hS (fun q _ h => hFc q h) hFc (fun u t H1 locs ht hvm hw hB hz1 hk1 hS => ?_)
      obtain ⟨hP1, hK1, hD1⟩ := hB
      rw [ht] at hP1
      obtain ⟨hP, hD⟩ := jn_all (w1 := (mW h0 kB kI kZ q (upd (upd (upd (upd (upd (upd (upd g 23 c34_g23) 27 c34_g27) 30 c34_g30) 34 c34_g34) 36 c34_g36) 39 c34_g39) 51 c34_g51) (upF (upF (upF (upF (upF (upF (upF (upF (upF (upF (upF (upF (upF (upF (upF (upF F 22 c34_F22) 24 c34_F24) 25 c34_F25) 26 c34_F26) 28 c34_F28) 29 c34_F29) 31 c34_F31) 32 c34_F32) 33 c34_F33) 37 c34_F37) 38 c34_F38) 40 c34_F40) 41 c34_F41) 52 c34_F52) 53 c34_F53) 54 c34_F54))) hFc hP1 hD1
      clear hFc hP1 hK1 hD1 hk1 hz1 ht hvm
      generalize H1 = H at hP hS ⊢
      have hP : va_P (dC, dI) vwCl (mW h0 kB kI kZ q (upd (upd (upd (upd (upd (upd (upd g 23 c34_g23) 27 c34_g27) 30 c34_g30) 34 c34_g34) 36 c34_g36) 39 c34_g39) 51 c34_g51) (upF (upF (upF (upF (upF (upF (upF (upF (upF (upF (upF (upF (upF (upF (upF (upF F 22 c34_F22) 24 c34_F24) 25 c34_F25) 26 c34_F26) 28 c34_F28) 29 c34_F29) 31 c34_F31) 32 c34_F32) 33 c34_F33) 37 c34_F37) 38 c34_F38) 40 c34_F40) 41 c34_F41) 52 c34_F52) 53 c34_F53) 54 c34_F54)) H := hP
      have hD : va_D A (mW h0 kB kI kZ q (upd (upd (upd (upd (upd (upd (upd g 23 c34_g23) 27 c34_g27) 30 c34_g30) 34 c34_g34) 36 c34_g36) 39 c34_g39) 51 c34_g51) (upF (upF (upF (upF (upF (upF (upF (upF (upF (upF (upF (upF (upF (upF (upF (upF F 22 c34_F22) 24 c34_F24) 25 c34_F25) 26 c34_F26) 28 c34_F28) 29 c34_F29) 31 c34_F31) 32 c34_F32) 33 c34_F33) 37 c34_F37) 38 c34_F38) 40 c34_F40) 41 c34_F41) 52 c34_F52) 53 c34_F53) 54 c34_F54)) := hD
      refine lv_aload_n hx hb dX12_uses_37 rfl (lv_at hl 0 rfl) ?_
      refine lv_bipush (v := 40) hx hb dX12_uses_38 (by decide +kernel) ?_
      refine lv_iload_n hx hb dX12_uses_40 rfl (lv_at hl 1 rfl) ?_
      refine lv_imul hx hb dX12_uses_41 ?_
      refine lv_iload_n hx hb dX12_uses_42 rfl (lv_at hl 2 rfl) ?_
      refine lv_iadd hx hb dX12_uses_43 ?_
      refine lv_topi (fun x44 ex44 => ?_)
      replace hr := vlS hr x44 ex44
      clear ex44
      refine va_put (D := (dC, dI)) (ci := 12) (v := .int x44) (ty := .int) (C := RX12) (T := TX12) (N := 71) hx hb hts inX12 tyX12 tyX12_ok nmX12 hown hK hP hD hS 0 rfl rfl 35 (by decide) (hts (.fieldLink RX12 263 "SpellTurnerModel" "lawAsked" "I") im_149) (fun _ h9 => h9) rfl (by decide +kernel) rfl rfl (Nat.le_of_ble_eq_true rfl) dX12_uses_44 (fun H locs hP hD hS => ?_)
      have hP : va_P (dC, dI) vwCl (mW h0 kB kI kZ q (upd (upd (upd (upd (upd (upd (upd (upd g 23 c34_g23) 27 c34_g27) 30 c34_g30) 34 c34_g34) 35 x44) 36 c34_g36) 39 c34_g39) 51 c34_g51) (upF (upF (upF (upF (upF (upF (upF (upF (upF (upF (upF (upF (upF (upF (upF (upF F 22 c34_F22) 24 c34_F24) 25 c34_F25) 26 c34_F26) 28 c34_F28) 29 c34_F29) 31 c34_F31) 32 c34_F32) 33 c34_F33) 37 c34_F37) 38 c34_F38) 40 c34_F40) 41 c34_F41) 52 c34_F52) 53 c34_F53) 54 c34_F54)) H := by first | exact sP_g35 hP (upd_in (by decide) (upd_in (by decide) (upd_in (by decide) rfl))) | exact sP_g35 hP (upd_in (by decide) (upd_in (by decide) (upd_in (by decide) upd_same))) | exact hP
      have hD : va_D A (mW h0 kB kI kZ q (upd (upd (upd (upd (upd (upd (upd (upd g 23 c34_g23) 27 c34_g27) 30 c34_g30) 34 c34_g34) 35 x44) 36 c34_g36) 39 c34_g39) 51 c34_g51) (upF (upF (upF (upF (upF (upF (upF (upF (upF (upF (upF (upF (upF (upF (upF (upF F 22 c34_F22) 24 c34_F24) 25 c34_F25) 26 c34_F26) 28 c34_F28) 29 c34_F29) 31 c34_F31) 32 c34_F32) 33 c34_F33) 37 c34_F37) 38 c34_F38) 40 c34_F40) 41 c34_F41) 52 c34_F52) 53 c34_F53) 54 c34_F54)) := by first | exact sD_g35 hD (upd_in (by decide) (upd_in (by decide) (upd_in (by decide) rfl))) | exact sD_g35 hD (upd_in (by decide) (upd_in (by decide) (upd_in (by decide) upd_same))) | exact hD
      refine lv_iconst (v := 0) hx hb dX12_uses_47 (by decide +kernel) ?_
      refine lv_istore_n (lv' := [(3, .int 0), (0, .ref h0), (1, .int p0), (2, .int p1)]) hx hb dX12_uses_48 rfl hl (by decide) rfl (fun ls hl => ?_)
      refine lv_iconst (v := 0) hx hb dX12_uses_49 (by decide +kernel) ?_
      refine lv_istore (lv' := [(4, .int 0), (3, .int 0), (0, .ref h0), (1, .int p0), (2, .int p1)]) hx hb dX12_uses_50 hl (by decide) rfl (fun ls hl => ?_)
      have lp52 : ∀ (n52 : Nat) (y52_3 : Int32) (y52_4 : Int32) (d52_g23 : Int32) (d52_g27 : Int32) (d52_g30 : Int32) (d52_g34 : Int32) (d52_g36 : Int32) (d52_F22 : (Nat → Int32)) (d52_F24 : (Nat → Int32)) (d52_F25 : (Nat → Int32)) (d52_F26 : (Nat → Int32)) (d52_F28 : (Nat → Int32)) (d52_F29 : (Nat → Int32)) (d52_F31 : (Nat → Int32)) (d52_F32 : (Nat → Int32)) (d52_F33 : (Nat → Int32)) (H : Heap) (locs : List Loc) (ls : Array Slot), L_uses_52 g F p0 c34_g39 c34_g51 c34_F37 c34_F38 c34_F40 c34_F41 c34_F52 c34_F53 c34_F54 x44 n52 y52_3 y52_4 d52_g23 d52_g27 d52_g30 d52_g34 d52_g36 d52_F22 d52_F24 d52_F25 d52_F26 d52_F28 d52_F29 d52_F31 d52_F32 d52_F33 = some (r, c_g23, c_g27, c_g30, c_g34, c_g35, c_g36, c_g39, c_g51, c_F22, c_F24, c_F25, c_F26, c_F28, c_F29, c_F31, c_F32, c_F33, c_F37, c_F38, c_F40, c_F41, c_F52, c_F53, c_F54) → va_P (dC, dI) vwCl (mW h0 kB kI kZ q (upd (upd (upd (upd (upd (upd (upd (upd g 23 d52_g23) 27 d52_g27) 30 d52_g30) 34 d52_g34) 35 x44) 36 d52_g36) 39 c34_g39) 51 c34_g51) (upF (upF (upF (upF (upF (upF (upF (upF (upF (upF (upF (upF (upF (upF (upF (upF F 22 d52_F22) 24 d52_F24) 25 d52_F25) 26 d52_F26) 28 d52_F28) 29 d52_F29) 31 d52_F31) 32 d52_F32) 33 d52_F33) 37 c34_F37) 38 c34_F38) 40 c34_F40) 41 c34_F41) 52 c34_F52) 53 c34_F53) 54 c34_F54)) H → va_D A (mW h0 kB kI kZ q (upd (upd (upd (upd (upd (upd (upd (upd g 23 d52_g23) 27 d52_g27) 30 d52_g30) 34 d52_g34) 35 x44) 36 d52_g36) 39 c34_g39) 51 c34_g51) (upF (upF (upF (upF (upF (upF (upF (upF (upF (upF (upF (upF (upF (upF (upF (upF F 22 d52_F22) 24 d52_F24) 25 d52_F25) 26 d52_F26) 28 d52_F28) 29 d52_F29) 31 d52_F31) 32 d52_F32) 33 d52_F33) 37 c34_F37) 38 c34_F38) 40 c34_F40) 41 c34_F41) 52 c34_F52) 53 c34_F53) 54 c34_F54)) → va_S A s.heap H locs → lv_has ls 6 [(0, .ref h0), (1, .int p0), (3, .int y52_3), (4, .int y52_4)] → W p l e ({ frames := 48, cells := 0, slots := 0, locals := 1171 } : Room) s m args below meth c H locs 0 0 Q (F0 m 52 ls []) := by
        intro n52
        induction n52 with
        | zero => intro y52_3 y52_4 d52_g23 d52_g27 d52_g30 d52_g34 d52_g36 d52_F22 d52_F24 d52_F25 d52_F26 d52_F28 d52_F29 d52_F31 d52_F32 d52_F33 H locs ls hr; exact nomatch (show none = some (r, c_g23, c_g27, c_g30, c_g34, c_g35, c_g36, c_g39, c_g51, c_F22, c_F24, c_F25, c_F26, c_F28, c_F29, c_F31, c_F32, c_F33, c_F37, c_F38, c_F40, c_F41, c_F52, c_F53, c_F54) from hr)
        | succ n52 ih52 =>
          intro y52_3 y52_4 d52_g23 d52_g27 d52_g30 d52_g34 d52_g36 d52_F22 d52_F24 d52_F25 d52_F26 d52_F28 d52_F29 d52_F31 d52_F32 d52_F33 H locs ls hr hP hD hS hl
          replace hr : B_uses_52 g F p0 c34_g39 c34_g51 c34_F37 c34_F38 c34_F40 c34_F41 c34_F52 c34_F53 c34_F54 x44 (L_uses_52 g F p0 c34_g39 c34_g51 c34_F37 c34_F38 c34_F40 c34_F41 c34_F52 c34_F53 c34_F54 x44 n52) y52_3 y52_4 d52_g23 d52_g27 d52_g30 d52_g34 d52_g36 d52_F22 d52_F24 d52_F25 d52_F26 d52_F28 d52_F29 d52_F31 d52_F32 d52_F33 = some (r, c_g23, c_g27, c_g30, c_g34, c_g35, c_g36, c_g39, c_g51, c_F22, c_F24, c_F25, c_F26, c_F28, c_F29, c_F31, c_F32, c_F33, c_F37, c_F38, c_F40, c_F41, c_F52, c_F53, c_F54) := hr
          unfold B_uses_52 at hr
          refine lv_iload hx hb dX12_uses_52 (lv_at hl 3 rfl) ?_
          refine lv_aload_n hx hb dX12_uses_54 rfl (lv_at hl 0 rfl) ?_
          refine va_get (D := (dC, dI)) (ci := 12) (v := .int (g 48)) (C := RX12) (T := TX12) (N := 71) hx hb hts inX12 hown hK hP 0 rfl rfl 48 (by decide) (hts (.fieldLink RX12 312 "SpellTurnerModel" "words" "I") im_85) (fun _ h9 => h9) rfl dX12_uses_55 ?_
          refine lv_icmp_ge (tgt := 158) hx hb dX12_uses_58 (by decide) (fun c58 => ?_) (fun c58 => ?_)
          · replace hr := iteT c58 hr
            refine lv_iload_n hx hb dX12_uses_158 rfl (lv_at hl 2 rfl) ?_
            first | exact K 159 ls _ _ _ _ _ _ _ _ _ _ _ _ _ _ _ _ _ _ _ _ _ _ _ _ _ H _ hr dX12_uses_159 (sP_eq (mW_cg (by repeat (first | with_reducible rfl | with_reducible refine upd_cg ?_ | refine Eq.trans ?_ (upd_id rfl))) (by repeat (first | with_reducible rfl | with_reducible refine upF_cg ?_ | refine Eq.trans ?_ (upF_id rfl)))) hP) (sD_eq (mW_cg (by repeat (first | with_reducible rfl | with_reducible refine upd_cg ?_ | refine Eq.trans ?_ (upd_id rfl))) (by repeat (first | with_reducible rfl | with_reducible refine upF_cg ?_ | refine Eq.trans ?_ (upF_id rfl)))) hD) hS | exact K 159 ls _ _ _ _ _ _ _ _ _ _ _ _ _ _ _ _ _ _ _ _ _ _ _ _ _ H _ hr dX12_uses_159 hP hD hS
          · replace hr := iteF c58 hr
            refine lv_aload_n hx hb dX12_uses_61 rfl (lv_at hl 0 rfl) ?_
            refine lv_iconst (v := 0) hx hb dX12_uses_62 (by decide +kernel) ?_
            refine va_put (D := (dC, dI)) (ci := 12) (v := .int 0) (ty := .boolean) (C := RX12) (T := TX12) (N := 71) hx hb hts inX12 tyX12 tyX12_ok nmX12 hown hK hP hD hS 0 rfl rfl 36 (by decide) (hts (.fieldLink RX12 260 "SpellTurnerModel" "isUsed" "Z") im_148) (fun _ h9 => h9) rfl (by decide +kernel) rfl rfl (Nat.le_of_ble_eq_true rfl) dX12_uses_63 (fun H locs hP hD hS => ?_)
            have hP : va_P (dC, dI) vwCl (mW h0 kB kI kZ q (upd (upd (upd (upd (upd (upd (upd (upd g 23 d52_g23) 27 d52_g27) 30 d52_g30) 34 d52_g34) 35 x44) 36 0) 39 c34_g39) 51 c34_g51) (upF (upF (upF (upF (upF (upF (upF (upF (upF (upF (upF (upF (upF (upF (upF (upF F 22 d52_F22) 24 d52_F24) 25 d52_F25) 26 d52_F26) 28 d52_F28) 29 d52_F29) 31 d52_F31) 32 d52_F32) 33 d52_F33) 37 c34_F37) 38 c34_F38) 40 c34_F40) 41 c34_F41) 52 c34_F52) 53 c34_F53) 54 c34_F54)) H := by first | exact sP_g36 hP (upd_in (by decide) (upd_in (by decide) upd_same)) | exact sP_g36 hP (upd_in (by decide) (upd_in (by decide) rfl)) | exact hP
            have hD : va_D A (mW h0 kB kI kZ q (upd (upd (upd (upd (upd (upd (upd (upd g 23 d52_g23) 27 d52_g27) 30 d52_g30) 34 d52_g34) 35 x44) 36 0) 39 c34_g39) 51 c34_g51) (upF (upF (upF (upF (upF (upF (upF (upF (upF (upF (upF (upF (upF (upF (upF (upF F 22 d52_F22) 24 d52_F24) 25 d52_F25) 26 d52_F26) 28 d52_F28) 29 d52_F29) 31 d52_F31) 32 d52_F32) 33 d52_F33) 37 c34_F37) 38 c34_F38) 40 c34_F40) 41 c34_F41) 52 c34_F52) 53 c34_F53) 54 c34_F54)) := by first | exact sD_g36 hD (upd_in (by decide) (upd_in (by decide) upd_same)) | exact sD_g36 hD (upd_in (by decide) (upd_in (by decide) rfl)) | exact hD
            refine lv_bipush (v := 12) hx hb dX12_uses_66 (by decide +kernel) ?_
            refine lv_bipush (v := 7) hx hb dX12_uses_68 (by decide +kernel) ?_
            refine lv_iload hx hb dX12_uses_70 (lv_at hl 3 rfl) ?_
            refine lv_imul hx hb dX12_uses_72 ?_
            refine lv_iload_n hx hb dX12_uses_73 rfl (lv_at hl 1 rfl) ?_
            refine lv_iadd hx hb dX12_uses_74 ?_
            refine lv_imul hx hb dX12_uses_75 ?_
            refine lv_topi (fun x76 ex76 => ?_)
            replace hr := vlS hr x76 ex76
            clear ex76
            refine lv_istore (lv' := [(5, .int x76), (0, .ref h0), (1, .int p0), (3, .int y52_3), (4, .int y52_4)]) hx hb dX12_uses_76 hl (by decide) rfl (fun ls hl => ?_)
            replace hr := jnS hr
            obtain ⟨k137, hk137, hr⟩ := hr
            have Jk137 : ∀ (c137_g23 : Int32) (c137_g27 : Int32) (c137_g30 : Int32) (c137_g34 : Int32) (c137_g36 : Int32) (c137_F22 : (Nat → Int32)) (c137_F24 : (Nat → Int32)) (c137_F25 : (Nat → Int32)) (c137_F26 : (Nat → Int32)) (c137_F28 : (Nat → Int32)) (c137_F29 : (Nat → Int32)) (c137_F31 : (Nat → Int32)) (c137_F32 : (Nat → Int32)) (c137_F33 : (Nat → Int32)) (H : Heap) (locs : List Loc) (ls : Array Slot), k137 c137_g23 c137_g27 c137_g30 c137_g34 c137_g36 c137_F22 c137_F24 c137_F25 c137_F26 c137_F28 c137_F29 c137_F31 c137_F32 c137_F33 = some (r, c_g23, c_g27, c_g30, c_g34, c_g35, c_g36, c_g39, c_g51, c_F22, c_F24, c_F25, c_F26, c_F28, c_F29, c_F31, c_F32, c_F33, c_F37, c_F38, c_F40, c_F41, c_F52, c_F53, c_F54) → va_P (dC, dI) vwCl (mW h0 kB kI kZ q (upd (upd (upd (upd (upd (upd (upd (upd g 23 c137_g23) 27 c137_g27) 30 c137_g30) 34 c137_g34) 35 x44) 36 c137_g36) 39 c34_g39) 51 c34_g51) (upF (upF (upF (upF (upF (upF (upF (upF (upF (upF (upF (upF (upF (upF (upF (upF F 22 c137_F22) 24 c137_F24) 25 c137_F25) 26 c137_F26) 28 c137_F28) 29 c137_F29) 31 c137_F31) 32 c137_F32) 33 c137_F33) 37 c34_F37) 38 c34_F38) 40 c34_F40) 41 c34_F41) 52 c34_F52) 53 c34_F53) 54 c34_F54)) H → va_D A (mW h0 kB kI kZ q (upd (upd (upd (upd (upd (upd (upd (upd g 23 c137_g23) 27 c137_g27) 30 c137_g30) 34 c137_g34) 35 x44) 36 c137_g36) 39 c34_g39) 51 c34_g51) (upF (upF (upF (upF (upF (upF (upF (upF (upF (upF (upF (upF (upF (upF (upF (upF F 22 c137_F22) 24 c137_F24) 25 c137_F25) 26 c137_F26) 28 c137_F28) 29 c137_F29) 31 c137_F31) 32 c137_F32) 33 c137_F33) 37 c34_F37) 38 c34_F38) 40 c34_F40) 41 c34_F41) 52 c34_F52) 53 c34_F53) 54 c34_F54)) → va_S A s.heap H locs → lv_has ls 6 [(0, .ref h0), (1, .int p0), (3, .int y52_3), (4, .int y52_4)] → W p l e ({ frames := 48, cells := 0, slots := 0, locals := 1171 } : Room) s m args below meth c H locs 0 0 Q (F0 m 137 ls []) := by
              intro c137_g23 c137_g27 c137_g30 c137_g34 c137_g36 c137_F22 c137_F24 c137_F25 c137_F26 c137_F28 c137_F29 c137_F31 c137_F32 c137_F33 H locs ls hr hP hD hS hl
              rw [hk137] at hr
              refine lv_iload_n hx hb dX12_uses_137 rfl (lv_at hl 2 rfl) ?_
              refine lv_aload_n hx hb dX12_uses_138 rfl (lv_at hl 0 rfl) ?_
              refine va_get (D := (dC, dI)) (ci := 12) (v := .int c137_g36) (C := RX12) (T := TX12) (N := 71) hx hb hts inX12 hown hK hP 0 rfl rfl 36 (by decide) (hts (.fieldLink RX12 260 "SpellTurnerModel" "isUsed" "Z") im_148) (fun _ h9 => h9) rfl dX12_uses_139 ?_
              replace hr := jnS hr
              obtain ⟨j150, hj150, hr⟩ := hr
              have Jj150 : ∀ (t150_0 : Int32) (H : Heap) (locs : List Loc) (ls : Array Slot), j150 t150_0 = some (r, c_g23, c_g27, c_g30, c_g34, c_g35, c_g36, c_g39, c_g51, c_F22, c_F24, c_F25, c_F26, c_F28, c_F29, c_F31, c_F32, c_F33, c_F37, c_F38, c_F40, c_F41, c_F52, c_F53, c_F54) → va_P (dC, dI) vwCl (mW h0 kB kI kZ q (upd (upd (upd (upd (upd (upd (upd (upd g 23 c137_g23) 27 c137_g27) 30 c137_g30) 34 c137_g34) 35 x44) 36 c137_g36) 39 c34_g39) 51 c34_g51) (upF (upF (upF (upF (upF (upF (upF (upF (upF (upF (upF (upF (upF (upF (upF (upF F 22 c137_F22) 24 c137_F24) 25 c137_F25) 26 c137_F26) 28 c137_F28) 29 c137_F29) 31 c137_F31) 32 c137_F32) 33 c137_F33) 37 c34_F37) 38 c34_F38) 40 c34_F40) 41 c34_F41) 52 c34_F52) 53 c34_F53) 54 c34_F54)) H → va_D A (mW h0 kB kI kZ q (upd (upd (upd (upd (upd (upd (upd (upd g 23 c137_g23) 27 c137_g27) 30 c137_g30) 34 c137_g34) 35 x44) 36 c137_g36) 39 c34_g39) 51 c34_g51) (upF (upF (upF (upF (upF (upF (upF (upF (upF (upF (upF (upF (upF (upF (upF (upF F 22 c137_F22) 24 c137_F24) 25 c137_F25) 26 c137_F26) 28 c137_F28) 29 c137_F29) 31 c137_F31) 32 c137_F32) 33 c137_F33) 37 c34_F37) 38 c34_F38) 40 c34_F40) 41 c34_F41) 52 c34_F52) 53 c34_F53) 54 c34_F54)) → va_S A s.heap H locs → lv_has ls 6 [(0, .ref h0), (1, .int p0), (4, .int y52_4)] → W p l e ({ frames := 48, cells := 0, slots := 0, locals := 1171 } : Room) s m args below meth c H locs 0 0 Q (F0 m 150 ls [.int t150_0, .int y52_3]) := by
                intro t150_0 H locs ls hr hP hD hS hl
                rw [hj150] at hr
                refine lv_iadd hx hb dX12_uses_150 ?_
                refine lv_topi (fun x151 ex151 => ?_)
                replace hr := vlS hr x151 ex151
                clear ex151
                refine lv_istore_n (lv' := [(3, .int x151), (0, .ref h0), (1, .int p0), (4, .int y52_4)]) hx hb dX12_uses_151 rfl hl (by decide) rfl (fun ls hl => ?_)
                refine lv_iinc (v := (y52_4 + 1)) (lv' := [(4, .int (y52_4 + 1)), (3, .int x151), (0, .ref h0), (1, .int p0)]) hx hb dX12_uses_152 hl (k := 3) rfl rfl (by decide) rfl (fun ls hl => ?_)
                refine lv_goto (tgt := 52) hx hb dX12_uses_155 (by decide) ?_
                exact ih52 x151 (y52_4 + 1) c137_g23 c137_g27 c137_g30 c137_g34 c137_g36 c137_F22 c137_F24 c137_F25 c137_F26 c137_F28 c137_F29 c137_F31 c137_F32 c137_F33 H _ ls hr hP hD hS (lv_sub hl [2, 3, 1, 0] rfl)
              refine lv_if_eq (tgt := 149) hx hb dX12_uses_142 (by decide) (fun c142 => ?_) (fun c142 => ?_)
              · replace hr := iteT c142 hr
                refine lv_iconst (v := 0) hx hb dX12_uses_149 (by decide +kernel) ?_
                exact Jj150 0 H _ ls hr hP hD hS (lv_sub hl [0, 1, 3] rfl)
              · replace hr := iteF c142 hr
                refine lv_iconst (v := 1) hx hb dX12_uses_145 (by decide +kernel) ?_
                refine lv_goto (tgt := 150) hx hb dX12_uses_146 (by decide) ?_
                exact Jj150 1 H _ ls hr hP hD hS (lv_sub hl [0, 1, 3] rfl)
            have lp78 : ∀ (n78 : Nat) (y78_5 : Int32) (d78_g23 : Int32) (d78_g27 : Int32) (d78_g30 : Int32) (d78_g34 : Int32) (d78_g36 : Int32) (d78_F22 : (Nat → Int32)) (d78_F24 : (Nat → Int32)) (d78_F25 : (Nat → Int32)) (d78_F26 : (Nat → Int32)) (d78_F28 : (Nat → Int32)) (d78_F29 : (Nat → Int32)) (d78_F31 : (Nat → Int32)) (d78_F32 : (Nat → Int32)) (d78_F33 : (Nat → Int32)) (H : Heap) (locs : List Loc) (ls : Array Slot), L_uses_78 g F p0 c34_g39 c34_g51 c34_F37 c34_F38 c34_F40 c34_F41 c34_F52 c34_F53 c34_F54 x44 y52_4 k137 n78 y78_5 d78_g23 d78_g27 d78_g30 d78_g34 d78_g36 d78_F22 d78_F24 d78_F25 d78_F26 d78_F28 d78_F29 d78_F31 d78_F32 d78_F33 = some (r, c_g23, c_g27, c_g30, c_g34, c_g35, c_g36, c_g39, c_g51, c_F22, c_F24, c_F25, c_F26, c_F28, c_F29, c_F31, c_F32, c_F33, c_F37, c_F38, c_F40, c_F41, c_F52, c_F53, c_F54) → va_P (dC, dI) vwCl (mW h0 kB kI kZ q (upd (upd (upd (upd (upd (upd (upd (upd g 23 d78_g23) 27 d78_g27) 30 d78_g30) 34 d78_g34) 35 x44) 36 d78_g36) 39 c34_g39) 51 c34_g51) (upF (upF (upF (upF (upF (upF (upF (upF (upF (upF (upF (upF (upF (upF (upF (upF F 22 d78_F22) 24 d78_F24) 25 d78_F25) 26 d78_F26) 28 d78_F28) 29 d78_F29) 31 d78_F31) 32 d78_F32) 33 d78_F33) 37 c34_F37) 38 c34_F38) 40 c34_F40) 41 c34_F41) 52 c34_F52) 53 c34_F53) 54 c34_F54)) H → va_D A (mW h0 kB kI kZ q (upd (upd (upd (upd (upd (upd (upd (upd g 23 d78_g23) 27 d78_g27) 30 d78_g30) 34 d78_g34) 35 x44) 36 d78_g36) 39 c34_g39) 51 c34_g51) (upF (upF (upF (upF (upF (upF (upF (upF (upF (upF (upF (upF (upF (upF (upF (upF F 22 d78_F22) 24 d78_F24) 25 d78_F25) 26 d78_F26) 28 d78_F28) 29 d78_F29) 31 d78_F31) 32 d78_F32) 33 d78_F33) 37 c34_F37) 38 c34_F38) 40 c34_F40) 41 c34_F41) 52 c34_F52) 53 c34_F53) 54 c34_F54)) → va_S A s.heap H locs → lv_has ls 6 [(0, .ref h0), (1, .int p0), (3, .int y52_3), (4, .int y52_4), (5, .int y78_5)] → W p l e ({ frames := 48, cells := 0, slots := 0, locals := 1171 } : Room) s m args below meth c H locs 0 0 Q (F0 m 78 ls []) := by
              intro n78
              induction n78 with
              | zero => intro y78_5 d78_g23 d78_g27 d78_g30 d78_g34 d78_g36 d78_F22 d78_F24 d78_F25 d78_F26 d78_F28 d78_F29 d78_F31 d78_F32 d78_F33 H locs ls hr; exact nomatch (show none = some (r, c_g23, c_g27, c_g30, c_g34, c_g35, c_g36, c_g39, c_g51, c_F22, c_F24, c_F25, c_F26, c_F28, c_F29, c_F31, c_F32, c_F33, c_F37, c_F38, c_F40, c_F41, c_F52, c_F53, c_F54) from hr)
              | succ n78 ih78 =>
                intro y78_5 d78_g23 d78_g27 d78_g30 d78_g34 d78_g36 d78_F22 d78_F24 d78_F25 d78_F26 d78_F28 d78_F29 d78_F31 d78_F32 d78_F33 H locs ls hr hP hD hS hl
                replace hr : B_uses_78 g F p0 c34_g39 c34_g51 c34_F37 c34_F38 c34_F40 c34_F41 c34_F52 c34_F53 c34_F54 x44 y52_4 k137 (L_uses_78 g F p0 c34_g39 c34_g51 c34_F37 c34_F38 c34_F40 c34_F41 c34_F52 c34_F53 c34_F54 x44 y52_4 k137 n78) y78_5 d78_g23 d78_g27 d78_g30 d78_g34 d78_g36 d78_F22 d78_F24 d78_F25 d78_F26 d78_F28 d78_F29 d78_F31 d78_F32 d78_F33 = some (r, c_g23, c_g27, c_g30, c_g34, c_g35, c_g36, c_g39, c_g51, c_F22, c_F24, c_F25, c_F26, c_F28, c_F29, c_F31, c_F32, c_F33, c_F37, c_F38, c_F40, c_F41, c_F52, c_F53, c_F54) := hr
                unfold B_uses_78 at hr
                refine lv_iload hx hb dX12_uses_78 (lv_at hl 4 rfl) ?_
                refine lv_bipush (v := 12) hx hb dX12_uses_80 (by decide +kernel) ?_
                refine lv_bipush (v := 7) hx hb dX12_uses_82 (by decide +kernel) ?_
                refine lv_iload hx hb dX12_uses_84 (lv_at hl 3 rfl) ?_
                refine lv_imul hx hb dX12_uses_86 ?_
                refine lv_iload_n hx hb dX12_uses_87 rfl (lv_at hl 1 rfl) ?_
                refine lv_iadd hx hb dX12_uses_88 ?_
                refine lv_imul hx hb dX12_uses_89 ?_
                refine lv_aload_n hx hb dX12_uses_90 rfl (lv_at hl 0 rfl) ?_
                refine va_get (D := (dC, dI)) (ci := 12) (v := .ref (q 54)) (C := RX12) (T := TX12) (N := 71) hx hb hts inX12 hown hK hP 0 rfl rfl 54 (by decide) (hts (.fieldLink RX12 119 "SpellTurnerModel" "formMany" "[I") im_107) (fun _ h9 => h9) rfl dX12_uses_91 ?_
                refine lv_bipush (v := 7) hx hb dX12_uses_94 (by decide +kernel) ?_
                refine lv_iload hx hb dX12_uses_96 (lv_at hl 3 rfl) ?_
                refine lv_imul hx hb dX12_uses_98 ?_
                refine lv_iload_n hx hb dX12_uses_99 rfl (lv_at hl 1 rfl) ?_
                refine lv_iadd hx hb dX12_uses_100 ?_
                replace hr := iteS hr
                obtain ⟨hi101, hr⟩ := hr
                refine va_iald (f := c34_F54) hx hb hK hP 35 1 rfl rfl (inbV hi101) dX12_uses_101 ?_
                refine lv_iadd hx hb dX12_uses_102 ?_
                refine lv_icmp_ge (tgt := 137) hx hb dX12_uses_103 (by decide) (fun c103 => ?_) (fun c103 => ?_)
                · replace hr := iteT c103 hr
                  exact Jk137 d78_g23 d78_g27 d78_g30 d78_g34 d78_g36 d78_F22 d78_F24 d78_F25 d78_F26 d78_F28 d78_F29 d78_F31 d78_F32 d78_F33 H _ ls hr hP hD hS (lv_sub hl [0, 1, 2, 3] rfl)
                · replace hr := iteF c103 hr
                  refine lv_aload_n hx hb dX12_uses_106 rfl (lv_at hl 0 rfl) ?_
                  refine lv_aload_n hx hb dX12_uses_107 rfl (lv_at hl 0 rfl) ?_
                  refine va_get (D := (dC, dI)) (ci := 12) (v := .ref (q 52)) (C := RX12) (T := TX12) (N := 71) hx hb hts inX12 hown hK hP 0 rfl rfl 52 (by decide) (hts (.fieldLink RX12 113 "SpellTurnerModel" "formText" "[B") im_108) (fun _ h9 => h9) rfl dX12_uses_108 ?_
                  refine lv_bipush (v := 24) hx hb dX12_uses_111 (by decide +kernel) ?_
                  refine lv_iload hx hb dX12_uses_113 (lv_at hl 4 rfl) ?_
                  refine lv_imul hx hb dX12_uses_115 ?_
                  refine lv_aload_n hx hb dX12_uses_116 rfl (lv_at hl 0 rfl) ?_
                  refine va_get (D := (dC, dI)) (ci := 12) (v := .ref (q 53)) (C := RX12) (T := TX12) (N := 71) hx hb hts inX12 hown hK hP 0 rfl rfl 53 (by decide) (hts (.fieldLink RX12 116 "SpellTurnerModel" "formSize" "[I") im_109) (fun _ h9 => h9) rfl dX12_uses_117 ?_
                  refine lv_iload hx hb dX12_uses_120 (lv_at hl 4 rfl) ?_
                  replace hr := iteS hr
                  obtain ⟨hi122, hr⟩ := hr
                  refine va_iald (f := c34_F53) hx hb hK hP 34 1 rfl rfl (inbV hi122) dX12_uses_122 ?_
                  replace hr := b2S hr
                  obtain ⟨c123_g23, c123_F22, hc123, hr⟩ := hr
                  have hFc := fr_all hD hS hA
                  refine va_callv (va_runV (As := [.ref (q 52), .int (24 * y78_5), .int (c34_F53 (Int32.toNatClampNeg y78_5))]) (rest := []) ⟨hx, hb, hml, hown, hts⟩ (m_takeWord_52 l dC dI H.size h0 kB kI kZ q (upd (upd (upd (upd (upd (upd (upd (upd g 23 d78_g23) 27 d78_g27) 30 d78_g30) 34 d78_g34) 35 x44) 36 d78_g36) 39 c34_g39) 51 c34_g51) (upF (upF (upF (upF (upF (upF (upF (upF (upF (upF (upF (upF (upF (upF (upF (upF F 22 d78_F22) 24 d78_F24) 25 d78_F25) 26 d78_F26) 28 d78_F28) 29 d78_F29) 31 d78_F31) 32 d78_F32) 33 d78_F33) 37 c34_F37) 38 c34_F38) 40 c34_F40) 41 c34_F41) 52 c34_F52) 53 c34_F53) 54 c34_F54) (24 * y78_5) (c34_F53 (Int32.toNatClampNeg y78_5)) c123_g23 c123_F22 hc123) (cwV 3 hts gw_X12_takeWord_290 rfl rfl rfl (by decide +kernel) ⟨Nat.le_of_ble_eq_true rfl, Nat.le_of_ble_eq_true rfl⟩) ⟨fun a U g mk q => by obtain ⟨q0, q1, qP, qK, qD⟩ := q; exact ⟨q0, q1, qP, va_K.moved (u := U) (U := U.calling g mk a) (Vm.Alike.refl U.vm) qK, qD⟩, va_recv hK hP (ci := 12) (q0 := 0) rfl rfl, fun U hU hW => ⟨rfl, by rw [hU], by rw [hU]; exact hP, va_K.moved hW.alike hK, hD.weaken (fun _ _ _ _ => trivial)⟩⟩ rfl rfl hl.1 rfl (lv_room (Nat.le_of_ble_eq_true rfl)) dX12_uses_123 ⟨Nat.le_of_ble_eq_true rfl, Nat.le_of_ble_eq_true rfl⟩) hS (fun q _ h => hFc q h) hFc (fun u t H1 locs ht hvm hw hB hz1 hk1 hS => ?_)
                  obtain ⟨hP1, hK1, hD1⟩ := hB
                  rw [ht] at hP1
                  obtain ⟨hP, hD⟩ := jn_all (w1 := (mW h0 kB kI kZ q (upd (upd (upd (upd (upd (upd (upd (upd g 23 c123_g23) 27 d78_g27) 30 d78_g30) 34 d78_g34) 35 x44) 36 d78_g36) 39 c34_g39) 51 c34_g51) (upF (upF (upF (upF (upF (upF (upF (upF (upF (upF (upF (upF (upF (upF (upF (upF F 22 c123_F22) 24 d78_F24) 25 d78_F25) 26 d78_F26) 28 d78_F28) 29 d78_F29) 31 d78_F31) 32 d78_F32) 33 d78_F33) 37 c34_F37) 38 c34_F38) 40 c34_F40) 41 c34_F41) 52 c34_F52) 53 c34_F53) 54 c34_F54))) hFc hP1 hD1
                  clear hFc hP1 hK1 hD1 hk1 hz1 ht hvm
                  generalize H1 = H at hP hS ⊢
                  have hP : va_P (dC, dI) vwCl (mW h0 kB kI kZ q (upd (upd (upd (upd (upd (upd (upd (upd g 23 c123_g23) 27 d78_g27) 30 d78_g30) 34 d78_g34) 35 x44) 36 d78_g36) 39 c34_g39) 51 c34_g51) (upF (upF (upF (upF (upF (upF (upF (upF (upF (upF (upF (upF (upF (upF (upF (upF F 22 c123_F22) 24 d78_F24) 25 d78_F25) 26 d78_F26) 28 d78_F28) 29 d78_F29) 31 d78_F31) 32 d78_F32) 33 d78_F33) 37 c34_F37) 38 c34_F38) 40 c34_F40) 41 c34_F41) 52 c34_F52) 53 c34_F53) 54 c34_F54)) H := hP
                  have hD : va_D A (mW h0 kB kI kZ q (upd (upd (upd (upd (upd (upd (upd (upd g 23 c123_g23) 27 d78_g27) 30 d78_g30) 34 d78_g34) 35 x44) 36 d78_g36) 39 c34_g39) 51 c34_g51) (upF (upF (upF (upF (upF (upF (upF (upF (upF (upF (upF (upF (upF (upF (upF (upF F 22 c123_F22) 24 d78_F24) 25 d78_F25) 26 d78_F26) 28 d78_F28) 29 d78_F29) 31 d78_F31) 32 d78_F32) 33 d78_F33) 37 c34_F37) 38 c34_F38) 40 c34_F40) 41 c34_F41) 52 c34_F52) 53 c34_F53) 54 c34_F54)) := hD
                  refine lv_aload_n hx hb dX12_uses_126 rfl (lv_at hl 0 rfl) ?_
                  refine lv_iload_n hx hb dX12_uses_127 rfl (lv_at hl 1 rfl) ?_
                  replace hr := b12S hr
                  obtain ⟨c128_g27, c128_g30, c128_g34, c128_g36, c128_F24, c128_F25, c128_F26, c128_F28, c128_F29, c128_F31, c128_F32, c128_F33, hc128, hr⟩ := hr
                  have hFc := fr_all hD hS hA
                  refine va_callv (va_runV (As := [.int p0]) (rest := []) ⟨hx, hb, hml, hown, hts⟩ (m_turnBy l dC dI H.size h0 kB kI kZ q (upd (upd (upd (upd (upd (upd (upd (upd g 23 c123_g23) 27 d78_g27) 30 d78_g30) 34 d78_g34) 35 x44) 36 d78_g36) 39 c34_g39) 51 c34_g51) (upF (upF (upF (upF (upF (upF (upF (upF (upF (upF (upF (upF (upF (upF (upF (upF F 22 c123_F22) 24 d78_F24) 25 d78_F25) 26 d78_F26) 28 d78_F28) 29 d78_F29) 31 d78_F31) 32 d78_F32) 33 d78_F33) 37 c34_F37) 38 c34_F38) 40 c34_F40) 41 c34_F41) 52 c34_F52) 53 c34_F53) 54 c34_F54) p0 c128_g27 c128_g30 c128_g34 c128_g36 c128_F24 c128_F25 c128_F26 c128_F28 c128_F29 c128_F31 c128_F32 c128_F33 hc128) (cwV 1 hts gw_X12_turnBy_294 rfl rfl rfl (by decide +kernel) ⟨Nat.le_of_ble_eq_true rfl, Nat.le_of_ble_eq_true rfl⟩) ⟨fun a U g mk q => by obtain ⟨q0, q1, qP, qK, qD⟩ := q; exact ⟨q0, q1, qP, va_K.moved (u := U) (U := U.calling g mk a) (Vm.Alike.refl U.vm) qK, qD⟩, va_recv hK hP (ci := 12) (q0 := 0) rfl rfl, fun U hU hW => ⟨rfl, by rw [hU], by rw [hU]; exact hP, va_K.moved hW.alike hK, hD.weaken (fun _ _ _ _ => trivial)⟩⟩ rfl rfl hl.1 rfl (lv_room (Nat.le_of_ble_eq_true rfl)) dX12_uses_128 ⟨Nat.le_of_ble_eq_true rfl, Nat.le_of_ble_eq_true rfl⟩) hS (fun q _ h => hFc q h) hFc (fun u t H1 locs ht hvm hw hB hz1 hk1 hS => ?_)
                  obtain ⟨hP1, hK1, hD1⟩ := hB
                  rw [ht] at hP1
                  obtain ⟨hP, hD⟩ := jn_all (w1 := (mW h0 kB kI kZ q (upd (upd (upd (upd (upd (upd (upd (upd g 23 c123_g23) 27 c128_g27) 30 c128_g30) 34 c128_g34) 35 x44) 36 c128_g36) 39 c34_g39) 51 c34_g51) (upF (upF (upF (upF (upF (upF (upF (upF (upF (upF (upF (upF (upF (upF (upF (upF F 22 c123_F22) 24 c128_F24) 25 c128_F25) 26 c128_F26) 28 c128_F28) 29 c128_F29) 31 c128_F31) 32 c128_F32) 33 c128_F33) 37 c34_F37) 38 c34_F38) 40 c34_F40) 41 c34_F41) 52 c34_F52) 53 c34_F53) 54 c34_F54))) hFc hP1 hD1
                  clear hFc hP1 hK1 hD1 hk1 hz1 ht hvm
                  generalize H1 = H at hP hS ⊢
                  have hP : va_P (dC, dI) vwCl (mW h0 kB kI kZ q (upd (upd (upd (upd (upd (upd (upd (upd g 23 c123_g23) 27 c128_g27) 30 c128_g30) 34 c128_g34) 35 x44) 36 c128_g36) 39 c34_g39) 51 c34_g51) (upF (upF (upF (upF (upF (upF (upF (upF (upF (upF (upF (upF (upF (upF (upF (upF F 22 c123_F22) 24 c128_F24) 25 c128_F25) 26 c128_F26) 28 c128_F28) 29 c128_F29) 31 c128_F31) 32 c128_F32) 33 c128_F33) 37 c34_F37) 38 c34_F38) 40 c34_F40) 41 c34_F41) 52 c34_F52) 53 c34_F53) 54 c34_F54)) H := hP
                  have hD : va_D A (mW h0 kB kI kZ q (upd (upd (upd (upd (upd (upd (upd (upd g 23 c123_g23) 27 c128_g27) 30 c128_g30) 34 c128_g34) 35 x44) 36 c128_g36) 39 c34_g39) 51 c34_g51) (upF (upF (upF (upF (upF (upF (upF (upF (upF (upF (upF (upF (upF (upF (upF (upF F 22 c123_F22) 24 c128_F24) 25 c128_F25) 26 c128_F26) 28 c128_F28) 29 c128_F29) 31 c128_F31) 32 c128_F32) 33 c128_F33) 37 c34_F37) 38 c34_F38) 40 c34_F40) 41 c34_F41) 52 c34_F52) 53 c34_F53) 54 c34_F54)) := hD
                  refine lv_iinc (v := (y78_5 + 1)) (lv' := [(5, .int (y78_5 + 1)), (0, .ref h0), (1, .int p0), (3, .int y52_3), (4, .int y52_4)]) hx hb dX12_uses_131 hl (k := 4) rfl rfl (by decide) rfl (fun ls hl => ?_)
                  refine lv_goto (tgt := 78) hx hb dX12_uses_134 (by decide) ?_
                  exact ih78 (y78_5 + 1) c123_g23 c128_g27 c128_g30 c128_g34 c128_g36 c123_F22 c128_F24 c128_F25 c128_F26 c128_F28 c128_F29 c128_F31 c128_F32 c128_F33 H _ ls hr hP hD hS (lv_sub hl [1, 2, 3, 4, 0] rfl)
            exact lp78 NN x76 d52_g23 d52_g27 d52_g30 d52_g34 0 d52_F22 d52_F24 d52_F25 d52_F26 d52_F28 d52_F29 d52_F31 d52_F32 d52_F33 H _ ls hr hP hD hS (lv_sub hl [1, 2, 3, 4, 0] rfl)
      exact lp52 NN 0 0 c34_g23 c34_g27 c34_g30 c34_g34 c34_g36 c34_F22 c34_F24 c34_F25 c34_F26 c34_F28 c34_F29 c34_F31 c34_F32 c34_F33 H _ ls hr hP hD hS (lv_sub hl [2, 3, 1, 0] rfl)
    · replace hr := iteT c27 hr
      exact Jj30 H _ ls hr hP hD hS (lv_sub hl [] rfl)
set_option maxHeartbeats 4000000 in
set_option maxRecDepth 100000 in
theorem m_uses (l : Launch) (dC : Nat → ClassId) (dI : Nat → Nat → Nat) (sz : Nat) (h0 : Nat) (kB kI kZ : ClassId) (q : Nat → Nat) (g : Nat → Int32) (F : Nat → Nat → Int32) (p0 : Int32) (p1 : Int32) (r : Int32) (c_g23 : Int32) (c_g27 : Int32) (c_g30 : Int32) (c_g34 : Int32) (c_g35 : Int32) (c_g36 : Int32) (c_g39 : Int32) (c_g51 : Int32) (c_F22 : (Nat → Int32)) (c_F24 : (Nat → Int32)) (c_F25 : (Nat → Int32)) (c_F26 : (Nat → Int32)) (c_F28 : (Nat → Int32)) (c_F29 : (Nat → Int32)) (c_F31 : (Nat → Int32)) (c_F32 : (Nat → Int32)) (c_F33 : (Nat → Int32)) (c_F37 : (Nat → Int32)) (c_F38 : (Nat → Int32)) (c_F40 : (Nat → Int32)) (c_F41 : (Nat → Int32)) (c_F52 : (Nat → Int32)) (c_F53 : (Nat → Int32)) (c_F54 : (Nat → Int32)) (hr : f_uses g F p0 p1 = some (r, c_g23, c_g27, c_g30, c_g34, c_g35, c_g36, c_g39, c_g51, c_F22, c_F24, c_F25, c_F26, c_F28, c_F29, c_F31, c_F32, c_F33, c_F37, c_F38, c_F40, c_F41, c_F52, c_F53, c_F54)) : Met l yX12_uses vmX12_uses ({ frames := 48, cells := 0, slots := 0, locals := 1171 } : Room) (va_Pc [.ref h0, .int p0, .int p1] (fun U => U.heap.size = sz ∧ va_P (dC, dI) vwCl (mW h0 kB kI kZ q g F) U.heap ∧ va_K (dC, dI) vwCl (mT kB kI kZ) U ∧ va_D (fun _ => True) (mW h0 kB kI kZ q g F))) (va_Qi (fun (rz : Int32) (_ : Unit) => rz = r) (fun _ t => va_P (dC, dI) vwCl (mW h0 kB kI kZ q (upd (upd (upd (upd (upd (upd (upd (upd g 23 c_g23) 27 c_g27) 30 c_g30) 34 c_g34) 35 c_g35) 36 c_g36) 39 c_g39) 51 c_g51) (upF (upF (upF (upF (upF (upF (upF (upF (upF (upF (upF (upF (upF (upF (upF (upF F 22 c_F22) 24 c_F24) 25 c_F25) 26 c_F26) 28 c_F28) 29 c_F29) 31 c_F31) 32 c_F32) 33 c_F33) 37 c_F37) 38 c_F38) 40 c_F40) 41 c_F41) 52 c_F52) 53 c_F53) 54 c_F54)) t.heap ∧ va_K (dC, dI) vwCl (mT kB kI kZ) t ∧ va_D (va_A (mW h0 kB kI kZ q g F) sz) (mW h0 kB kI kZ q (upd (upd (upd (upd (upd (upd (upd (upd g 23 c_g23) 27 c_g27) 30 c_g30) 34 c_g34) 35 c_g35) 36 c_g36) 39 c_g39) 51 c_g51) (upF (upF (upF (upF (upF (upF (upF (upF (upF (upF (upF (upF (upF (upF (upF (upF F 22 c_F22) 24 c_F24) 25 c_F25) 26 c_F26) 28 c_F28) 29 c_F29) 31 c_F31) 32 c_F32) 33 c_F33) 37 c_F37) 38 c_F38) 40 c_F40) 41 c_F41) 52 c_F52) 53 c_F53) 54 c_F54))) (va_A (mW h0 kB kI kZ q g F) sz)) 0 0 (va_A (mW h0 kB kI kZ q g F) sz) := by
  refine Met.ofW (cc := cX12_uses) (maxL := 6) (ret := (some .int)) (by decide) rfl ?_
  intro p e s m args below meth c s₁ B hml hv
  obtain ⟨rfl, hsz, hP, hK, hD0⟩ := hv
  have hx := B.exec
  have hb := B.bytes
  have hrt := B.returns
  have hts := atoms_spec (ws := vmX12_uses) B.pre
  have hown : s.vm.findClass RX12 = some m.cls := findClass_of_methodNamed B.named
  subst hsz
  have hD := hD0.self (sz := s.heap.size)
  generalize hAe : va_A (mW h0 kB kI kZ q g F) s.heap.size = A at hD ⊢
  have hA : ∀ q : Nat, s.heap.size ≤ q → A q := fun q h => by rw [← hAe]; exact Or.inr h
  have hS : va_S A s.heap s.heap [] := va_S.rf
  have hl := lv_entry ([.ref h0, .int p0, .int p1]) (n := 6) (Nat.le_of_ble_eq_true rfl)
  rw [lg_entry_eq]
  generalize (lg_sl ([.ref h0, .int p0, .int p1]) ++ List.replicate (6 - (lg_sl ([.ref h0, .int p0, .int p1])).length) Slot.unset).toArray = ls at hl ⊢
  exact bm_uses p0 p1 r c_g23 c_g27 c_g30 c_g34 c_g35 c_g36 c_g39 c_g51 c_F22 c_F24 c_F25 c_F26 c_F28 c_F29 c_F31 c_F32 c_F33 c_F37 c_F38 c_F40 c_F41 c_F52 c_F53 c_F54 hr hx hb hml hown hts hA hK hP hD hS hl (fun pc ls rz c_g23z c_g27z c_g30z c_g34z c_g35z c_g36z c_g39z c_g51z c_F22z c_F24z c_F25z c_F26z c_F28z c_F29z c_F31z c_F32z c_F33z c_F37z c_F38z c_F40z c_F41z c_F52z c_F53z c_F54z H locs he hd hP hD hS => by cases he; exact W.iret (v := r) hx hb hrt (fun t ht hW => ⟨⟨r, (), rfl, rfl, by rw [ht]; exact hP, va_K.moved hW.alike hK, hD⟩, hS.F ht⟩) hS.2.2 hd)
