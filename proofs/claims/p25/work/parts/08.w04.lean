theorem gd_X4_readKeep_0 : decode cX4_readKeep 0 = .ok (.aload_n 0, 1) ∧ decode cX4_readKeep 1 = .ok (.aload_n 1, 1) ∧ decode cX4_readKeep 2 = .ok (.getfield 78, 3) ∧ decode cX4_readKeep 5 = .ok (.invokevirtual 84, 3) ∧ decode cX4_readKeep 8 = .ok (.ifCond .ne 7, 3) ∧ decode cX4_readKeep 11 = .ok (.iconst 1, 1) ∧ decode cX4_readKeep 12 = .ok (.goto 4, 3) ∧ decode cX4_readKeep 15 = .ok (.iconst 0, 1) ∧ decode cX4_readKeep 16 = .ok (.invokevirtual 90, 3) ∧ decode cX4_readKeep 19 = .ok (.ifCond .eq 35, 3) := by decide +kernel
theorem dX4_readKeep_0 : decode cX4_readKeep 0 = .ok (.aload_n 0, 1) := gd_X4_readKeep_0.1
theorem dX4_readKeep_1 : decode cX4_readKeep 1 = .ok (.aload_n 1, 1) := gd_X4_readKeep_0.2.1
theorem dX4_readKeep_2 : decode cX4_readKeep 2 = .ok (.getfield 78, 3) := gd_X4_readKeep_0.2.2.1
theorem dX4_readKeep_5 : decode cX4_readKeep 5 = .ok (.invokevirtual 84, 3) := gd_X4_readKeep_0.2.2.2.1
theorem dX4_readKeep_8 : decode cX4_readKeep 8 = .ok (.ifCond .ne 7, 3) := gd_X4_readKeep_0.2.2.2.2.1
theorem dX4_readKeep_11 : decode cX4_readKeep 11 = .ok (.iconst 1, 1) := gd_X4_readKeep_0.2.2.2.2.2.1
theorem dX4_readKeep_12 : decode cX4_readKeep 12 = .ok (.goto 4, 3) := gd_X4_readKeep_0.2.2.2.2.2.2.1
theorem dX4_readKeep_15 : decode cX4_readKeep 15 = .ok (.iconst 0, 1) := gd_X4_readKeep_0.2.2.2.2.2.2.2.1
theorem dX4_readKeep_16 : decode cX4_readKeep 16 = .ok (.invokevirtual 90, 3) := gd_X4_readKeep_0.2.2.2.2.2.2.2.2.1
theorem dX4_readKeep_19 : decode cX4_readKeep 19 = .ok (.ifCond .eq 35, 3) := gd_X4_readKeep_0.2.2.2.2.2.2.2.2.2
theorem gd_X4_readKeep_22 : decode cX4_readKeep 22 = .ok (.aload_n 0, 1) ∧ decode cX4_readKeep 23 = .ok (.aload_n 1, 1) ∧ decode cX4_readKeep 24 = .ok (.getfield 78, 3) ∧ decode cX4_readKeep 27 = .ok (.invokevirtual 94, 3) ∧ decode cX4_readKeep 30 = .ok (.ifCond .eq 24, 3) ∧ decode cX4_readKeep 33 = .ok (.aload_n 1, 1) ∧ decode cX4_readKeep 34 = .ok (.aload_n 0, 1) ∧ decode cX4_readKeep 35 = .ok (.getfield 18, 3) ∧ decode cX4_readKeep 38 = .ok (.aload_n 0, 1) ∧ decode cX4_readKeep 39 = .ok (.getfield 34, 3) := by decide +kernel
theorem dX4_readKeep_22 : decode cX4_readKeep 22 = .ok (.aload_n 0, 1) := gd_X4_readKeep_22.1
theorem dX4_readKeep_23 : decode cX4_readKeep 23 = .ok (.aload_n 1, 1) := gd_X4_readKeep_22.2.1
theorem dX4_readKeep_24 : decode cX4_readKeep 24 = .ok (.getfield 78, 3) := gd_X4_readKeep_22.2.2.1
theorem dX4_readKeep_27 : decode cX4_readKeep 27 = .ok (.invokevirtual 94, 3) := gd_X4_readKeep_22.2.2.2.1
theorem dX4_readKeep_30 : decode cX4_readKeep 30 = .ok (.ifCond .eq 24, 3) := gd_X4_readKeep_22.2.2.2.2.1
theorem dX4_readKeep_33 : decode cX4_readKeep 33 = .ok (.aload_n 1, 1) := gd_X4_readKeep_22.2.2.2.2.2.1
theorem dX4_readKeep_34 : decode cX4_readKeep 34 = .ok (.aload_n 0, 1) := gd_X4_readKeep_22.2.2.2.2.2.2.1
theorem dX4_readKeep_35 : decode cX4_readKeep 35 = .ok (.getfield 18, 3) := gd_X4_readKeep_22.2.2.2.2.2.2.2.1
theorem dX4_readKeep_38 : decode cX4_readKeep 38 = .ok (.aload_n 0, 1) := gd_X4_readKeep_22.2.2.2.2.2.2.2.2.1
theorem dX4_readKeep_39 : decode cX4_readKeep 39 = .ok (.getfield 34, 3) := gd_X4_readKeep_22.2.2.2.2.2.2.2.2.2
theorem gd_X4_readKeep_42 : decode cX4_readKeep 42 = .ok (.aload_n 0, 1) ∧ decode cX4_readKeep 43 = .ok (.getfield 37, 3) ∧ decode cX4_readKeep 46 = .ok (.invokevirtual 98, 3) ∧ decode cX4_readKeep 49 = .ok (.aload_n 0, 1) ∧ decode cX4_readKeep 50 = .ok (.invokevirtual 102, 3) ∧ decode cX4_readKeep 53 = .ok (.pop, 1) ∧ decode cX4_readKeep 54 = .ok (.return_, 1) ∧ decode cX4_readList 0 = .ok (.aload_n 0, 1) ∧ decode cX4_readList 1 = .ok (.aload_n 1, 1) ∧ decode cX4_readList 2 = .ok (.getfield 78, 3) := by decide +kernel
theorem dX4_readKeep_42 : decode cX4_readKeep 42 = .ok (.aload_n 0, 1) := gd_X4_readKeep_42.1
theorem dX4_readKeep_43 : decode cX4_readKeep 43 = .ok (.getfield 37, 3) := gd_X4_readKeep_42.2.1
theorem dX4_readKeep_46 : decode cX4_readKeep 46 = .ok (.invokevirtual 98, 3) := gd_X4_readKeep_42.2.2.1
theorem dX4_readKeep_49 : decode cX4_readKeep 49 = .ok (.aload_n 0, 1) := gd_X4_readKeep_42.2.2.2.1
theorem dX4_readKeep_50 : decode cX4_readKeep 50 = .ok (.invokevirtual 102, 3) := gd_X4_readKeep_42.2.2.2.2.1
theorem dX4_readKeep_53 : decode cX4_readKeep 53 = .ok (.pop, 1) := gd_X4_readKeep_42.2.2.2.2.2.1
theorem dX4_readKeep_54 : decode cX4_readKeep 54 = .ok (.return_, 1) := gd_X4_readKeep_42.2.2.2.2.2.2.1
theorem dX4_readList_0 : decode cX4_readList 0 = .ok (.aload_n 0, 1) := gd_X4_readKeep_42.2.2.2.2.2.2.2.1
theorem dX4_readList_1 : decode cX4_readList 1 = .ok (.aload_n 1, 1) := gd_X4_readKeep_42.2.2.2.2.2.2.2.2.1
theorem dX4_readList_2 : decode cX4_readList 2 = .ok (.getfield 78, 3) := gd_X4_readKeep_42.2.2.2.2.2.2.2.2.2
theorem gd_X4_readList_5 : decode cX4_readList 5 = .ok (.invokevirtual 84, 3) ∧ decode cX4_readList 8 = .ok (.ifCond .ne 7, 3) ∧ decode cX4_readList 11 = .ok (.iconst 1, 1) ∧ decode cX4_readList 12 = .ok (.goto 4, 3) ∧ decode cX4_readList 15 = .ok (.iconst 0, 1) ∧ decode cX4_readList 16 = .ok (.invokevirtual 90, 3) ∧ decode cX4_readList 19 = .ok (.ifCond .eq 69, 3) ∧ decode cX4_readList 22 = .ok (.aload_n 0, 1) ∧ decode cX4_readList 23 = .ok (.aload_n 1, 1) ∧ decode cX4_readList 24 = .ok (.getfield 78, 3) := by decide +kernel
theorem dX4_readList_5 : decode cX4_readList 5 = .ok (.invokevirtual 84, 3) := gd_X4_readList_5.1
theorem dX4_readList_8 : decode cX4_readList 8 = .ok (.ifCond .ne 7, 3) := gd_X4_readList_5.2.1
theorem dX4_readList_11 : decode cX4_readList 11 = .ok (.iconst 1, 1) := gd_X4_readList_5.2.2.1
theorem dX4_readList_12 : decode cX4_readList 12 = .ok (.goto 4, 3) := gd_X4_readList_5.2.2.2.1
theorem dX4_readList_15 : decode cX4_readList 15 = .ok (.iconst 0, 1) := gd_X4_readList_5.2.2.2.2.1
theorem dX4_readList_16 : decode cX4_readList 16 = .ok (.invokevirtual 90, 3) := gd_X4_readList_5.2.2.2.2.2.1
theorem dX4_readList_19 : decode cX4_readList 19 = .ok (.ifCond .eq 69, 3) := gd_X4_readList_5.2.2.2.2.2.2.1
theorem dX4_readList_22 : decode cX4_readList 22 = .ok (.aload_n 0, 1) := gd_X4_readList_5.2.2.2.2.2.2.2.1
theorem dX4_readList_23 : decode cX4_readList 23 = .ok (.aload_n 1, 1) := gd_X4_readList_5.2.2.2.2.2.2.2.2.1
theorem dX4_readList_24 : decode cX4_readList 24 = .ok (.getfield 78, 3) := gd_X4_readList_5.2.2.2.2.2.2.2.2.2
theorem gd_X4_readList_27 : decode cX4_readList 27 = .ok (.invokevirtual 94, 3) ∧ decode cX4_readList 30 = .ok (.ifCond .eq 58, 3) ∧ decode cX4_readList 33 = .ok (.aload_n 1, 1) ∧ decode cX4_readList 34 = .ok (.aload_n 0, 1) ∧ decode cX4_readList 35 = .ok (.getfield 18, 3) ∧ decode cX4_readList 38 = .ok (.aload_n 0, 1) ∧ decode cX4_readList 39 = .ok (.getfield 34, 3) ∧ decode cX4_readList 42 = .ok (.aload_n 0, 1) ∧ decode cX4_readList 43 = .ok (.getfield 37, 3) ∧ decode cX4_readList 46 = .ok (.invokevirtual 105, 3) := by decide +kernel
theorem dX4_readList_27 : decode cX4_readList 27 = .ok (.invokevirtual 94, 3) := gd_X4_readList_27.1
theorem dX4_readList_30 : decode cX4_readList 30 = .ok (.ifCond .eq 58, 3) := gd_X4_readList_27.2.1
theorem dX4_readList_33 : decode cX4_readList 33 = .ok (.aload_n 1, 1) := gd_X4_readList_27.2.2.1
theorem dX4_readList_34 : decode cX4_readList 34 = .ok (.aload_n 0, 1) := gd_X4_readList_27.2.2.2.1
theorem dX4_readList_35 : decode cX4_readList 35 = .ok (.getfield 18, 3) := gd_X4_readList_27.2.2.2.2.1
theorem dX4_readList_38 : decode cX4_readList 38 = .ok (.aload_n 0, 1) := gd_X4_readList_27.2.2.2.2.2.1
theorem dX4_readList_39 : decode cX4_readList 39 = .ok (.getfield 34, 3) := gd_X4_readList_27.2.2.2.2.2.2.1
theorem dX4_readList_42 : decode cX4_readList 42 = .ok (.aload_n 0, 1) := gd_X4_readList_27.2.2.2.2.2.2.2.1
theorem dX4_readList_43 : decode cX4_readList 43 = .ok (.getfield 37, 3) := gd_X4_readList_27.2.2.2.2.2.2.2.2.1
theorem dX4_readList_46 : decode cX4_readList 46 = .ok (.invokevirtual 105, 3) := gd_X4_readList_27.2.2.2.2.2.2.2.2.2
theorem gd_X4_readList_49 : decode cX4_readList 49 = .ok (.aload_n 0, 1) ∧ decode cX4_readList 50 = .ok (.invokevirtual 108, 3) ∧ decode cX4_readList 53 = .ok (.ifCond .eq 35, 3) ∧ decode cX4_readList 56 = .ok (.aload_n 0, 1) ∧ decode cX4_readList 57 = .ok (.iconst 1, 1) ∧ decode cX4_readList 58 = .ok (.invokevirtual 111, 3) ∧ decode cX4_readList 61 = .ok (.ifCond .eq 27, 3) ∧ decode cX4_readList 64 = .ok (.aload_n 1, 1) ∧ decode cX4_readList 65 = .ok (.getfield 114, 3) ∧ decode cX4_readList 68 = .ok (.aload_n 0, 1) := by decide +kernel
theorem dX4_readList_49 : decode cX4_readList 49 = .ok (.aload_n 0, 1) := gd_X4_readList_49.1
theorem dX4_readList_50 : decode cX4_readList 50 = .ok (.invokevirtual 108, 3) := gd_X4_readList_49.2.1
theorem dX4_readList_53 : decode cX4_readList 53 = .ok (.ifCond .eq 35, 3) := gd_X4_readList_49.2.2.1
theorem dX4_readList_56 : decode cX4_readList 56 = .ok (.aload_n 0, 1) := gd_X4_readList_49.2.2.2.1
theorem dX4_readList_57 : decode cX4_readList 57 = .ok (.iconst 1, 1) := gd_X4_readList_49.2.2.2.2.1
theorem dX4_readList_58 : decode cX4_readList 58 = .ok (.invokevirtual 111, 3) := gd_X4_readList_49.2.2.2.2.2.1
theorem dX4_readList_61 : decode cX4_readList 61 = .ok (.ifCond .eq 27, 3) := gd_X4_readList_49.2.2.2.2.2.2.1
theorem dX4_readList_64 : decode cX4_readList 64 = .ok (.aload_n 1, 1) := gd_X4_readList_49.2.2.2.2.2.2.2.1
theorem dX4_readList_65 : decode cX4_readList 65 = .ok (.getfield 114, 3) := gd_X4_readList_49.2.2.2.2.2.2.2.2.1
theorem dX4_readList_68 : decode cX4_readList 68 = .ok (.aload_n 0, 1) := gd_X4_readList_49.2.2.2.2.2.2.2.2.2
theorem gd_X4_readList_69 : decode cX4_readList 69 = .ok (.getfield 18, 3) ∧ decode cX4_readList 72 = .ok (.aload_n 0, 1) ∧ decode cX4_readList 73 = .ok (.getfield 34, 3) ∧ decode cX4_readList 76 = .ok (.aload_n 0, 1) ∧ decode cX4_readList 77 = .ok (.getfield 37, 3) ∧ decode cX4_readList 80 = .ok (.invokevirtual 117, 3) ∧ decode cX4_readList 83 = .ok (.aload_n 0, 1) ∧ decode cX4_readList 84 = .ok (.invokevirtual 102, 3) ∧ decode cX4_readList 87 = .ok (.pop, 1) ∧ decode cX4_readList 88 = .ok (.return_, 1) := by decide +kernel
theorem dX4_readList_69 : decode cX4_readList 69 = .ok (.getfield 18, 3) := gd_X4_readList_69.1
theorem dX4_readList_72 : decode cX4_readList 72 = .ok (.aload_n 0, 1) := gd_X4_readList_69.2.1
theorem dX4_readList_73 : decode cX4_readList 73 = .ok (.getfield 34, 3) := gd_X4_readList_69.2.2.1
theorem dX4_readList_76 : decode cX4_readList 76 = .ok (.aload_n 0, 1) := gd_X4_readList_69.2.2.2.1
theorem dX4_readList_77 : decode cX4_readList 77 = .ok (.getfield 37, 3) := gd_X4_readList_69.2.2.2.2.1
theorem dX4_readList_80 : decode cX4_readList 80 = .ok (.invokevirtual 117, 3) := gd_X4_readList_69.2.2.2.2.2.1
theorem dX4_readList_83 : decode cX4_readList 83 = .ok (.aload_n 0, 1) := gd_X4_readList_69.2.2.2.2.2.2.1
theorem dX4_readList_84 : decode cX4_readList 84 = .ok (.invokevirtual 102, 3) := gd_X4_readList_69.2.2.2.2.2.2.2.1
theorem dX4_readList_87 : decode cX4_readList 87 = .ok (.pop, 1) := gd_X4_readList_69.2.2.2.2.2.2.2.2.1
theorem dX4_readList_88 : decode cX4_readList 88 = .ok (.return_, 1) := gd_X4_readList_69.2.2.2.2.2.2.2.2.2
theorem gd_X4_readPart_0 : decode cX4_readPart 0 = .ok (.aload_n 0, 1) ∧ decode cX4_readPart 1 = .ok (.aload_n 1, 1) ∧ decode cX4_readPart 2 = .ok (.getfield 120, 3) ∧ decode cX4_readPart 5 = .ok (.invokevirtual 84, 3) ∧ decode cX4_readPart 8 = .ok (.ifCond .ne 7, 3) ∧ decode cX4_readPart 11 = .ok (.iconst 1, 1) ∧ decode cX4_readPart 12 = .ok (.goto 4, 3) ∧ decode cX4_readPart 15 = .ok (.iconst 0, 1) ∧ decode cX4_readPart 16 = .ok (.invokevirtual 90, 3) ∧ decode cX4_readPart 19 = .ok (.ifCond .eq 38, 3) := by decide +kernel
theorem dX4_readPart_0 : decode cX4_readPart 0 = .ok (.aload_n 0, 1) := gd_X4_readPart_0.1
theorem dX4_readPart_1 : decode cX4_readPart 1 = .ok (.aload_n 1, 1) := gd_X4_readPart_0.2.1
theorem dX4_readPart_2 : decode cX4_readPart 2 = .ok (.getfield 120, 3) := gd_X4_readPart_0.2.2.1
theorem dX4_readPart_5 : decode cX4_readPart 5 = .ok (.invokevirtual 84, 3) := gd_X4_readPart_0.2.2.2.1
theorem dX4_readPart_8 : decode cX4_readPart 8 = .ok (.ifCond .ne 7, 3) := gd_X4_readPart_0.2.2.2.2.1
theorem dX4_readPart_11 : decode cX4_readPart 11 = .ok (.iconst 1, 1) := gd_X4_readPart_0.2.2.2.2.2.1
theorem dX4_readPart_12 : decode cX4_readPart 12 = .ok (.goto 4, 3) := gd_X4_readPart_0.2.2.2.2.2.2.1
theorem dX4_readPart_15 : decode cX4_readPart 15 = .ok (.iconst 0, 1) := gd_X4_readPart_0.2.2.2.2.2.2.2.1
theorem dX4_readPart_16 : decode cX4_readPart 16 = .ok (.invokevirtual 90, 3) := gd_X4_readPart_0.2.2.2.2.2.2.2.2.1
theorem dX4_readPart_19 : decode cX4_readPart 19 = .ok (.ifCond .eq 38, 3) := gd_X4_readPart_0.2.2.2.2.2.2.2.2.2
theorem gd_X4_readPart_22 : decode cX4_readPart 22 = .ok (.aload_n 0, 1) ∧ decode cX4_readPart 23 = .ok (.aload_n 1, 1) ∧ decode cX4_readPart 24 = .ok (.getfield 120, 3) ∧ decode cX4_readPart 27 = .ok (.invokevirtual 94, 3) ∧ decode cX4_readPart 30 = .ok (.ifCond .eq 27, 3) ∧ decode cX4_readPart 33 = .ok (.aload_n 1, 1) ∧ decode cX4_readPart 34 = .ok (.getfield 120, 3) ∧ decode cX4_readPart 37 = .ok (.aload_n 0, 1) ∧ decode cX4_readPart 38 = .ok (.getfield 18, 3) ∧ decode cX4_readPart 41 = .ok (.aload_n 0, 1) := by decide +kernel
theorem dX4_readPart_22 : decode cX4_readPart 22 = .ok (.aload_n 0, 1) := gd_X4_readPart_22.1
theorem dX4_readPart_23 : decode cX4_readPart 23 = .ok (.aload_n 1, 1) := gd_X4_readPart_22.2.1
theorem dX4_readPart_24 : decode cX4_readPart 24 = .ok (.getfield 120, 3) := gd_X4_readPart_22.2.2.1
theorem dX4_readPart_27 : decode cX4_readPart 27 = .ok (.invokevirtual 94, 3) := gd_X4_readPart_22.2.2.2.1
theorem dX4_readPart_30 : decode cX4_readPart 30 = .ok (.ifCond .eq 27, 3) := gd_X4_readPart_22.2.2.2.2.1
theorem dX4_readPart_33 : decode cX4_readPart 33 = .ok (.aload_n 1, 1) := gd_X4_readPart_22.2.2.2.2.2.1
theorem dX4_readPart_34 : decode cX4_readPart 34 = .ok (.getfield 120, 3) := gd_X4_readPart_22.2.2.2.2.2.2.1
theorem dX4_readPart_37 : decode cX4_readPart 37 = .ok (.aload_n 0, 1) := gd_X4_readPart_22.2.2.2.2.2.2.2.1
theorem dX4_readPart_38 : decode cX4_readPart 38 = .ok (.getfield 18, 3) := gd_X4_readPart_22.2.2.2.2.2.2.2.2.1
theorem dX4_readPart_41 : decode cX4_readPart 41 = .ok (.aload_n 0, 1) := gd_X4_readPart_22.2.2.2.2.2.2.2.2.2
theorem gd_X4_readPart_42 : decode cX4_readPart 42 = .ok (.getfield 34, 3) ∧ decode cX4_readPart 45 = .ok (.aload_n 0, 1) ∧ decode cX4_readPart 46 = .ok (.getfield 37, 3) ∧ decode cX4_readPart 49 = .ok (.invokevirtual 117, 3) ∧ decode cX4_readPart 52 = .ok (.aload_n 0, 1) ∧ decode cX4_readPart 53 = .ok (.invokevirtual 102, 3) ∧ decode cX4_readPart 56 = .ok (.pop, 1) ∧ decode cX4_readPart 57 = .ok (.return_, 1) ∧ decode cX4_hasRoom 0 = .ok (.iload_n 1, 1) ∧ decode cX4_hasRoom 1 = .ok (.ifCond .ne 11, 3) := by decide +kernel
theorem dX4_readPart_42 : decode cX4_readPart 42 = .ok (.getfield 34, 3) := gd_X4_readPart_42.1
theorem dX4_readPart_45 : decode cX4_readPart 45 = .ok (.aload_n 0, 1) := gd_X4_readPart_42.2.1
theorem dX4_readPart_46 : decode cX4_readPart 46 = .ok (.getfield 37, 3) := gd_X4_readPart_42.2.2.1
theorem dX4_readPart_49 : decode cX4_readPart 49 = .ok (.invokevirtual 117, 3) := gd_X4_readPart_42.2.2.2.1
theorem dX4_readPart_52 : decode cX4_readPart 52 = .ok (.aload_n 0, 1) := gd_X4_readPart_42.2.2.2.2.1
theorem dX4_readPart_53 : decode cX4_readPart 53 = .ok (.invokevirtual 102, 3) := gd_X4_readPart_42.2.2.2.2.2.1
theorem dX4_readPart_56 : decode cX4_readPart 56 = .ok (.pop, 1) := gd_X4_readPart_42.2.2.2.2.2.2.1
theorem dX4_readPart_57 : decode cX4_readPart 57 = .ok (.return_, 1) := gd_X4_readPart_42.2.2.2.2.2.2.2.1
theorem dX4_hasRoom_0 : decode cX4_hasRoom 0 = .ok (.iload_n 1, 1) := gd_X4_readPart_42.2.2.2.2.2.2.2.2.1
theorem dX4_hasRoom_1 : decode cX4_hasRoom 1 = .ok (.ifCond .ne 11, 3) := gd_X4_readPart_42.2.2.2.2.2.2.2.2.2
theorem gd_X4_hasRoom_4 : decode cX4_hasRoom 4 = .ok (.aload_n 0, 1) ∧ decode cX4_hasRoom 5 = .ok (.iconst 4, 1) ∧ decode cX4_hasRoom 6 = .ok (.invokevirtual 74, 3) ∧ decode cX4_hasRoom 9 = .ok (.ifCond .eq 7, 3) ∧ decode cX4_hasRoom 12 = .ok (.iconst 1, 1) ∧ decode cX4_hasRoom 13 = .ok (.goto 4, 3) ∧ decode cX4_hasRoom 16 = .ok (.iconst 0, 1) ∧ decode cX4_hasRoom 17 = .ok (.ireturn, 1) ∧ decode cX4_isNew 0 = .ok (.iload_n 1, 1) ∧ decode cX4_isNew 1 = .ok (.ifCond .ne 11, 3) := by decide +kernel
theorem dX4_hasRoom_4 : decode cX4_hasRoom 4 = .ok (.aload_n 0, 1) := gd_X4_hasRoom_4.1
theorem dX4_hasRoom_5 : decode cX4_hasRoom 5 = .ok (.iconst 4, 1) := gd_X4_hasRoom_4.2.1
theorem dX4_hasRoom_6 : decode cX4_hasRoom 6 = .ok (.invokevirtual 74, 3) := gd_X4_hasRoom_4.2.2.1
theorem dX4_hasRoom_9 : decode cX4_hasRoom 9 = .ok (.ifCond .eq 7, 3) := gd_X4_hasRoom_4.2.2.2.1
theorem dX4_hasRoom_12 : decode cX4_hasRoom 12 = .ok (.iconst 1, 1) := gd_X4_hasRoom_4.2.2.2.2.1
theorem dX4_hasRoom_13 : decode cX4_hasRoom 13 = .ok (.goto 4, 3) := gd_X4_hasRoom_4.2.2.2.2.2.1
theorem dX4_hasRoom_16 : decode cX4_hasRoom 16 = .ok (.iconst 0, 1) := gd_X4_hasRoom_4.2.2.2.2.2.2.1
theorem dX4_hasRoom_17 : decode cX4_hasRoom 17 = .ok (.ireturn, 1) := gd_X4_hasRoom_4.2.2.2.2.2.2.2.1
theorem dX4_isNew_0 : decode cX4_isNew 0 = .ok (.iload_n 1, 1) := gd_X4_hasRoom_4.2.2.2.2.2.2.2.2.1
theorem dX4_isNew_1 : decode cX4_isNew 1 = .ok (.ifCond .ne 11, 3) := gd_X4_hasRoom_4.2.2.2.2.2.2.2.2.2
theorem gd_X4_isNew_4 : decode cX4_isNew 4 = .ok (.aload_n 0, 1) ∧ decode cX4_isNew 5 = .ok (.iconst 3, 1) ∧ decode cX4_isNew 6 = .ok (.invokevirtual 74, 3) ∧ decode cX4_isNew 9 = .ok (.ifCond .eq 7, 3) ∧ decode cX4_isNew 12 = .ok (.iconst 1, 1) ∧ decode cX4_isNew 13 = .ok (.goto 4, 3) ∧ decode cX4_isNew 16 = .ok (.iconst 0, 1) ∧ decode cX4_isNew 17 = .ok (.ireturn, 1) ∧ decode cX4_takeNew 0 = .ok (.aload_n 0, 1) ∧ decode cX4_takeNew 1 = .ok (.iconst 0, 1) := by decide +kernel
theorem dX4_isNew_4 : decode cX4_isNew 4 = .ok (.aload_n 0, 1) := gd_X4_isNew_4.1
theorem dX4_isNew_5 : decode cX4_isNew 5 = .ok (.iconst 3, 1) := gd_X4_isNew_4.2.1
theorem dX4_isNew_6 : decode cX4_isNew 6 = .ok (.invokevirtual 74, 3) := gd_X4_isNew_4.2.2.1
theorem dX4_isNew_9 : decode cX4_isNew 9 = .ok (.ifCond .eq 7, 3) := gd_X4_isNew_4.2.2.2.1
theorem dX4_isNew_12 : decode cX4_isNew 12 = .ok (.iconst 1, 1) := gd_X4_isNew_4.2.2.2.2.1
theorem dX4_isNew_13 : decode cX4_isNew 13 = .ok (.goto 4, 3) := gd_X4_isNew_4.2.2.2.2.2.1
theorem dX4_isNew_16 : decode cX4_isNew 16 = .ok (.iconst 0, 1) := gd_X4_isNew_4.2.2.2.2.2.2.1
theorem dX4_isNew_17 : decode cX4_isNew 17 = .ok (.ireturn, 1) := gd_X4_isNew_4.2.2.2.2.2.2.2.1
theorem dX4_takeNew_0 : decode cX4_takeNew 0 = .ok (.aload_n 0, 1) := gd_X4_isNew_4.2.2.2.2.2.2.2.2.1
theorem dX4_takeNew_1 : decode cX4_takeNew 1 = .ok (.iconst 0, 1) := gd_X4_isNew_4.2.2.2.2.2.2.2.2.2
theorem gd_X4_takeNew_2 : decode cX4_takeNew 2 = .ok (.invokevirtual 111, 3) ∧ decode cX4_takeNew 5 = .ok (.ifCond .ne 5, 3) ∧ decode cX4_takeNew 8 = .ok (.iconst 0, 1) ∧ decode cX4_takeNew 9 = .ok (.ireturn, 1) ∧ decode cX4_takeNew 10 = .ok (.aload_n 0, 1) ∧ decode cX4_takeNew 11 = .ok (.aload_n 1, 1) ∧ decode cX4_takeNew 12 = .ok (.aload_n 0, 1) ∧ decode cX4_takeNew 13 = .ok (.getfield 18, 3) ∧ decode cX4_takeNew 16 = .ok (.aload_n 0, 1) ∧ decode cX4_takeNew 17 = .ok (.getfield 34, 3) := by decide +kernel
theorem dX4_takeNew_2 : decode cX4_takeNew 2 = .ok (.invokevirtual 111, 3) := gd_X4_takeNew_2.1
theorem dX4_takeNew_5 : decode cX4_takeNew 5 = .ok (.ifCond .ne 5, 3) := gd_X4_takeNew_2.2.1
theorem dX4_takeNew_8 : decode cX4_takeNew 8 = .ok (.iconst 0, 1) := gd_X4_takeNew_2.2.2.1
theorem dX4_takeNew_9 : decode cX4_takeNew 9 = .ok (.ireturn, 1) := gd_X4_takeNew_2.2.2.2.1
theorem dX4_takeNew_10 : decode cX4_takeNew 10 = .ok (.aload_n 0, 1) := gd_X4_takeNew_2.2.2.2.2.1
theorem dX4_takeNew_11 : decode cX4_takeNew 11 = .ok (.aload_n 1, 1) := gd_X4_takeNew_2.2.2.2.2.2.1
theorem dX4_takeNew_12 : decode cX4_takeNew 12 = .ok (.aload_n 0, 1) := gd_X4_takeNew_2.2.2.2.2.2.2.1
theorem dX4_takeNew_13 : decode cX4_takeNew 13 = .ok (.getfield 18, 3) := gd_X4_takeNew_2.2.2.2.2.2.2.2.1
theorem dX4_takeNew_16 : decode cX4_takeNew 16 = .ok (.aload_n 0, 1) := gd_X4_takeNew_2.2.2.2.2.2.2.2.2.1
theorem dX4_takeNew_17 : decode cX4_takeNew 17 = .ok (.getfield 34, 3) := gd_X4_takeNew_2.2.2.2.2.2.2.2.2.2
theorem gd_X4_takeNew_20 : decode cX4_takeNew 20 = .ok (.aload_n 0, 1) ∧ decode cX4_takeNew 21 = .ok (.getfield 37, 3) ∧ decode cX4_takeNew 24 = .ok (.invokevirtual 165, 3) ∧ decode cX4_takeNew 27 = .ok (.iconst (-1), 1) ∧ decode cX4_takeNew 28 = .ok (.if_icmp .ne 7, 3) ∧ decode cX4_takeNew 31 = .ok (.iconst 1, 1) ∧ decode cX4_takeNew 32 = .ok (.goto 4, 3) ∧ decode cX4_takeNew 35 = .ok (.iconst 0, 1) ∧ decode cX4_takeNew 36 = .ok (.invokevirtual 147, 3) ∧ decode cX4_takeNew 39 = .ok (.ireturn, 1) := by decide +kernel
theorem dX4_takeNew_20 : decode cX4_takeNew 20 = .ok (.aload_n 0, 1) := gd_X4_takeNew_20.1
theorem dX4_takeNew_21 : decode cX4_takeNew 21 = .ok (.getfield 37, 3) := gd_X4_takeNew_20.2.1
theorem dX4_takeNew_24 : decode cX4_takeNew 24 = .ok (.invokevirtual 165, 3) := gd_X4_takeNew_20.2.2.1
theorem dX4_takeNew_27 : decode cX4_takeNew 27 = .ok (.iconst (-1), 1) := gd_X4_takeNew_20.2.2.2.1
theorem dX4_takeNew_28 : decode cX4_takeNew 28 = .ok (.if_icmp .ne 7, 3) := gd_X4_takeNew_20.2.2.2.2.1
theorem dX4_takeNew_31 : decode cX4_takeNew 31 = .ok (.iconst 1, 1) := gd_X4_takeNew_20.2.2.2.2.2.1
theorem dX4_takeNew_32 : decode cX4_takeNew 32 = .ok (.goto 4, 3) := gd_X4_takeNew_20.2.2.2.2.2.2.1
theorem dX4_takeNew_35 : decode cX4_takeNew 35 = .ok (.iconst 0, 1) := gd_X4_takeNew_20.2.2.2.2.2.2.2.1
theorem dX4_takeNew_36 : decode cX4_takeNew 36 = .ok (.invokevirtual 147, 3) := gd_X4_takeNew_20.2.2.2.2.2.2.2.2.1
theorem dX4_takeNew_39 : decode cX4_takeNew 39 = .ok (.ireturn, 1) := gd_X4_takeNew_20.2.2.2.2.2.2.2.2.2
theorem gd_X4_takeLetters_0 : decode cX4_takeLetters 0 = .ok (.aload_n 0, 1) ∧ decode cX4_takeLetters 1 = .ok (.invokevirtual 46, 3) ∧ decode cX4_takeLetters 4 = .ok (.aload_n 0, 1) ∧ decode cX4_takeLetters 5 = .ok (.getfield 28, 3) ∧ decode cX4_takeLetters 8 = .ok (.iconst 2, 1) ∧ decode cX4_takeLetters 9 = .ok (.if_icmp .eq 9, 3) ∧ decode cX4_takeLetters 12 = .ok (.aload_n 0, 1) ∧ decode cX4_takeLetters 13 = .ok (.iconst 1, 1) ∧ decode cX4_takeLetters 14 = .ok (.invokevirtual 74, 3) ∧ decode cX4_takeLetters 17 = .ok (.ireturn, 1) := by decide +kernel
theorem dX4_takeLetters_0 : decode cX4_takeLetters 0 = .ok (.aload_n 0, 1) := gd_X4_takeLetters_0.1
theorem dX4_takeLetters_1 : decode cX4_takeLetters 1 = .ok (.invokevirtual 46, 3) := gd_X4_takeLetters_0.2.1
theorem dX4_takeLetters_4 : decode cX4_takeLetters 4 = .ok (.aload_n 0, 1) := gd_X4_takeLetters_0.2.2.1
theorem dX4_takeLetters_5 : decode cX4_takeLetters 5 = .ok (.getfield 28, 3) := gd_X4_takeLetters_0.2.2.2.1
theorem dX4_takeLetters_8 : decode cX4_takeLetters 8 = .ok (.iconst 2, 1) := gd_X4_takeLetters_0.2.2.2.2.1
theorem dX4_takeLetters_9 : decode cX4_takeLetters 9 = .ok (.if_icmp .eq 9, 3) := gd_X4_takeLetters_0.2.2.2.2.2.1
theorem dX4_takeLetters_12 : decode cX4_takeLetters 12 = .ok (.aload_n 0, 1) := gd_X4_takeLetters_0.2.2.2.2.2.2.1
theorem dX4_takeLetters_13 : decode cX4_takeLetters 13 = .ok (.iconst 1, 1) := gd_X4_takeLetters_0.2.2.2.2.2.2.2.1
theorem dX4_takeLetters_14 : decode cX4_takeLetters 14 = .ok (.invokevirtual 74, 3) := gd_X4_takeLetters_0.2.2.2.2.2.2.2.2.1
theorem dX4_takeLetters_17 : decode cX4_takeLetters 17 = .ok (.ireturn, 1) := gd_X4_takeLetters_0.2.2.2.2.2.2.2.2.2
theorem gd_X4_takeLetters_18 : decode cX4_takeLetters 18 = .ok (.aload_n 0, 1) ∧ decode cX4_takeLetters 19 = .ok (.getfield 37, 3) ∧ decode cX4_takeLetters 22 = .ok (.ifCond .gt 15, 3) ∧ decode cX4_takeLetters 25 = .ok (.iload_n 1, 1) ∧ decode cX4_takeLetters 26 = .ok (.ifCond .ne 11, 3) ∧ decode cX4_takeLetters 29 = .ok (.aload_n 0, 1) ∧ decode cX4_takeLetters 30 = .ok (.iconst 2, 1) ∧ decode cX4_takeLetters 31 = .ok (.invokevirtual 74, 3) ∧ decode cX4_takeLetters 34 = .ok (.ifCond .eq 7, 3) ∧ decode cX4_takeLetters 37 = .ok (.iconst 1, 1) := by decide +kernel
theorem dX4_takeLetters_18 : decode cX4_takeLetters 18 = .ok (.aload_n 0, 1) := gd_X4_takeLetters_18.1
theorem dX4_takeLetters_19 : decode cX4_takeLetters 19 = .ok (.getfield 37, 3) := gd_X4_takeLetters_18.2.1
theorem dX4_takeLetters_22 : decode cX4_takeLetters 22 = .ok (.ifCond .gt 15, 3) := gd_X4_takeLetters_18.2.2.1
theorem dX4_takeLetters_25 : decode cX4_takeLetters 25 = .ok (.iload_n 1, 1) := gd_X4_takeLetters_18.2.2.2.1
theorem dX4_takeLetters_26 : decode cX4_takeLetters 26 = .ok (.ifCond .ne 11, 3) := gd_X4_takeLetters_18.2.2.2.2.1
theorem dX4_takeLetters_29 : decode cX4_takeLetters 29 = .ok (.aload_n 0, 1) := gd_X4_takeLetters_18.2.2.2.2.2.1
theorem dX4_takeLetters_30 : decode cX4_takeLetters 30 = .ok (.iconst 2, 1) := gd_X4_takeLetters_18.2.2.2.2.2.2.1
theorem dX4_takeLetters_31 : decode cX4_takeLetters 31 = .ok (.invokevirtual 74, 3) := gd_X4_takeLetters_18.2.2.2.2.2.2.2.1
theorem dX4_takeLetters_34 : decode cX4_takeLetters 34 = .ok (.ifCond .eq 7, 3) := gd_X4_takeLetters_18.2.2.2.2.2.2.2.2.1
theorem dX4_takeLetters_37 : decode cX4_takeLetters 37 = .ok (.iconst 1, 1) := gd_X4_takeLetters_18.2.2.2.2.2.2.2.2.2
theorem gd_X4_takeLetters_38 : decode cX4_takeLetters 38 = .ok (.goto 4, 3) ∧ decode cX4_takeLetters 41 = .ok (.iconst 0, 1) ∧ decode cX4_takeLetters 42 = .ok (.ireturn, 1) ∧ decode cX4_takeTo 0 = .ok (.aload_n 0, 1) ∧ decode cX4_takeTo 1 = .ok (.invokevirtual 46, 3) ∧ decode cX4_takeTo 4 = .ok (.aload_n 0, 1) ∧ decode cX4_takeTo 5 = .ok (.ldc 169, 2) ∧ decode cX4_takeTo 7 = .ok (.invokevirtual 51, 3) ∧ decode cX4_takeTo 10 = .ok (.ifCond .ne 11, 3) ∧ decode cX4_takeTo 13 = .ok (.aload_n 0, 1) := by decide +kernel
theorem dX4_takeLetters_38 : decode cX4_takeLetters 38 = .ok (.goto 4, 3) := gd_X4_takeLetters_38.1
theorem dX4_takeLetters_41 : decode cX4_takeLetters 41 = .ok (.iconst 0, 1) := gd_X4_takeLetters_38.2.1
theorem dX4_takeLetters_42 : decode cX4_takeLetters 42 = .ok (.ireturn, 1) := gd_X4_takeLetters_38.2.2.1
theorem dX4_takeTo_0 : decode cX4_takeTo 0 = .ok (.aload_n 0, 1) := gd_X4_takeLetters_38.2.2.2.1
theorem dX4_takeTo_1 : decode cX4_takeTo 1 = .ok (.invokevirtual 46, 3) := gd_X4_takeLetters_38.2.2.2.2.1
theorem dX4_takeTo_4 : decode cX4_takeTo 4 = .ok (.aload_n 0, 1) := gd_X4_takeLetters_38.2.2.2.2.2.1
theorem dX4_takeTo_5 : decode cX4_takeTo 5 = .ok (.ldc 169, 2) := gd_X4_takeLetters_38.2.2.2.2.2.2.1
theorem dX4_takeTo_7 : decode cX4_takeTo 7 = .ok (.invokevirtual 51, 3) := gd_X4_takeLetters_38.2.2.2.2.2.2.2.1
theorem dX4_takeTo_10 : decode cX4_takeTo 10 = .ok (.ifCond .ne 11, 3) := gd_X4_takeLetters_38.2.2.2.2.2.2.2.2.1
theorem dX4_takeTo_13 : decode cX4_takeTo 13 = .ok (.aload_n 0, 1) := gd_X4_takeLetters_38.2.2.2.2.2.2.2.2.2
theorem gd_X4_takeTo_14 : decode cX4_takeTo 14 = .ok (.iconst 1, 1) ∧ decode cX4_takeTo 15 = .ok (.invokevirtual 74, 3) ∧ decode cX4_takeTo 18 = .ok (.ifCond .eq 7, 3) ∧ decode cX4_takeTo 21 = .ok (.iconst 1, 1) ∧ decode cX4_takeTo 22 = .ok (.goto 4, 3) ∧ decode cX4_takeTo 25 = .ok (.iconst 0, 1) ∧ decode cX4_takeTo 26 = .ok (.ireturn, 1) ∧ decode cX4_takeClose 0 = .ok (.aload_n 0, 1) ∧ decode cX4_takeClose 1 = .ok (.invokevirtual 46, 3) ∧ decode cX4_takeClose 4 = .ok (.aload_n 0, 1) := by decide +kernel
theorem dX4_takeTo_14 : decode cX4_takeTo 14 = .ok (.iconst 1, 1) := gd_X4_takeTo_14.1
theorem dX4_takeTo_15 : decode cX4_takeTo 15 = .ok (.invokevirtual 74, 3) := gd_X4_takeTo_14.2.1
theorem dX4_takeTo_18 : decode cX4_takeTo 18 = .ok (.ifCond .eq 7, 3) := gd_X4_takeTo_14.2.2.1
theorem dX4_takeTo_21 : decode cX4_takeTo 21 = .ok (.iconst 1, 1) := gd_X4_takeTo_14.2.2.2.1
theorem dX4_takeTo_22 : decode cX4_takeTo 22 = .ok (.goto 4, 3) := gd_X4_takeTo_14.2.2.2.2.1
theorem dX4_takeTo_25 : decode cX4_takeTo 25 = .ok (.iconst 0, 1) := gd_X4_takeTo_14.2.2.2.2.2.1
theorem dX4_takeTo_26 : decode cX4_takeTo 26 = .ok (.ireturn, 1) := gd_X4_takeTo_14.2.2.2.2.2.2.1
theorem dX4_takeClose_0 : decode cX4_takeClose 0 = .ok (.aload_n 0, 1) := gd_X4_takeTo_14.2.2.2.2.2.2.2.1
theorem dX4_takeClose_1 : decode cX4_takeClose 1 = .ok (.invokevirtual 46, 3) := gd_X4_takeTo_14.2.2.2.2.2.2.2.2.1
theorem dX4_takeClose_4 : decode cX4_takeClose 4 = .ok (.aload_n 0, 1) := gd_X4_takeTo_14.2.2.2.2.2.2.2.2.2
theorem gd_X4_takeClose_5 : decode cX4_takeClose 5 = .ok (.getfield 28, 3) ∧ decode cX4_takeClose 8 = .ok (.iconst 3, 1) ∧ decode cX4_takeClose 9 = .ok (.if_icmp .eq 11, 3) ∧ decode cX4_takeClose 12 = .ok (.aload_n 0, 1) ∧ decode cX4_takeClose 13 = .ok (.iconst 1, 1) ∧ decode cX4_takeClose 14 = .ok (.invokevirtual 74, 3) ∧ decode cX4_takeClose 17 = .ok (.ifCond .eq 7, 3) ∧ decode cX4_takeClose 20 = .ok (.iconst 1, 1) ∧ decode cX4_takeClose 21 = .ok (.goto 4, 3) ∧ decode cX4_takeClose 24 = .ok (.iconst 0, 1) := by decide +kernel
theorem dX4_takeClose_5 : decode cX4_takeClose 5 = .ok (.getfield 28, 3) := gd_X4_takeClose_5.1
theorem dX4_takeClose_8 : decode cX4_takeClose 8 = .ok (.iconst 3, 1) := gd_X4_takeClose_5.2.1
theorem dX4_takeClose_9 : decode cX4_takeClose 9 = .ok (.if_icmp .eq 11, 3) := gd_X4_takeClose_5.2.2.1
theorem dX4_takeClose_12 : decode cX4_takeClose 12 = .ok (.aload_n 0, 1) := gd_X4_takeClose_5.2.2.2.1
theorem dX4_takeClose_13 : decode cX4_takeClose 13 = .ok (.iconst 1, 1) := gd_X4_takeClose_5.2.2.2.2.1
theorem dX4_takeClose_14 : decode cX4_takeClose 14 = .ok (.invokevirtual 74, 3) := gd_X4_takeClose_5.2.2.2.2.2.1
theorem dX4_takeClose_17 : decode cX4_takeClose 17 = .ok (.ifCond .eq 7, 3) := gd_X4_takeClose_5.2.2.2.2.2.2.1
theorem dX4_takeClose_20 : decode cX4_takeClose 20 = .ok (.iconst 1, 1) := gd_X4_takeClose_5.2.2.2.2.2.2.2.1
theorem dX4_takeClose_21 : decode cX4_takeClose 21 = .ok (.goto 4, 3) := gd_X4_takeClose_5.2.2.2.2.2.2.2.2.1
theorem dX4_takeClose_24 : decode cX4_takeClose 24 = .ok (.iconst 0, 1) := gd_X4_takeClose_5.2.2.2.2.2.2.2.2.2
theorem gd_X4_takeClose_25 : decode cX4_takeClose 25 = .ok (.ireturn, 1) ∧ decode cX4_blame 0 = .ok (.aload_n 0, 1) ∧ decode cX4_blame 1 = .ok (.iload_n 1, 1) ∧ decode cX4_blame 2 = .ok (.putfield 9, 3) ∧ decode cX4_blame 5 = .ok (.aload_n 0, 1) ∧ decode cX4_blame 6 = .ok (.aload_n 0, 1) ∧ decode cX4_blame 7 = .ok (.getfield 31, 3) ∧ decode cX4_blame 10 = .ok (.putfield 15, 3) ∧ decode cX4_blame 13 = .ok (.iconst 0, 1) ∧ decode cX4_blame 14 = .ok (.ireturn, 1) := by decide +kernel
theorem dX4_takeClose_25 : decode cX4_takeClose 25 = .ok (.ireturn, 1) := gd_X4_takeClose_25.1
theorem dX4_blame_0 : decode cX4_blame 0 = .ok (.aload_n 0, 1) := gd_X4_takeClose_25.2.1
theorem dX4_blame_1 : decode cX4_blame 1 = .ok (.iload_n 1, 1) := gd_X4_takeClose_25.2.2.1
theorem dX4_blame_2 : decode cX4_blame 2 = .ok (.putfield 9, 3) := gd_X4_takeClose_25.2.2.2.1
theorem dX4_blame_5 : decode cX4_blame 5 = .ok (.aload_n 0, 1) := gd_X4_takeClose_25.2.2.2.2.1
theorem dX4_blame_6 : decode cX4_blame 6 = .ok (.aload_n 0, 1) := gd_X4_takeClose_25.2.2.2.2.2.1
theorem dX4_blame_7 : decode cX4_blame 7 = .ok (.getfield 31, 3) := gd_X4_takeClose_25.2.2.2.2.2.2.1
theorem dX4_blame_10 : decode cX4_blame 10 = .ok (.putfield 15, 3) := gd_X4_takeClose_25.2.2.2.2.2.2.2.1
theorem dX4_blame_13 : decode cX4_blame 13 = .ok (.iconst 0, 1) := gd_X4_takeClose_25.2.2.2.2.2.2.2.2.1
theorem dX4_blame_14 : decode cX4_blame 14 = .ok (.ireturn, 1) := gd_X4_takeClose_25.2.2.2.2.2.2.2.2.2
theorem gd_X4_wordIs_0 : decode cX4_wordIs 0 = .ok (.aload_n 0, 1) ∧ decode cX4_wordIs 1 = .ok (.getfield 28, 3) ∧ decode cX4_wordIs 4 = .ok (.iconst 1, 1) ∧ decode cX4_wordIs 5 = .ok (.if_icmp .ne 14, 3) ∧ decode cX4_wordIs 8 = .ok (.aload_n 0, 1) ∧ decode cX4_wordIs 9 = .ok (.getfield 37, 3) ∧ decode cX4_wordIs 12 = .ok (.aload_n 1, 1) ∧ decode cX4_wordIs 13 = .ok (.invokevirtual 177, 3) ∧ decode cX4_wordIs 16 = .ok (.if_icmp .eq 5, 3) ∧ decode cX4_wordIs 19 = .ok (.iconst 0, 1) := by decide +kernel
theorem dX4_wordIs_0 : decode cX4_wordIs 0 = .ok (.aload_n 0, 1) := gd_X4_wordIs_0.1
theorem dX4_wordIs_1 : decode cX4_wordIs 1 = .ok (.getfield 28, 3) := gd_X4_wordIs_0.2.1
theorem dX4_wordIs_4 : decode cX4_wordIs 4 = .ok (.iconst 1, 1) := gd_X4_wordIs_0.2.2.1
theorem dX4_wordIs_5 : decode cX4_wordIs 5 = .ok (.if_icmp .ne 14, 3) := gd_X4_wordIs_0.2.2.2.1
theorem dX4_wordIs_8 : decode cX4_wordIs 8 = .ok (.aload_n 0, 1) := gd_X4_wordIs_0.2.2.2.2.1
theorem dX4_wordIs_9 : decode cX4_wordIs 9 = .ok (.getfield 37, 3) := gd_X4_wordIs_0.2.2.2.2.2.1
theorem dX4_wordIs_12 : decode cX4_wordIs 12 = .ok (.aload_n 1, 1) := gd_X4_wordIs_0.2.2.2.2.2.2.1
theorem dX4_wordIs_13 : decode cX4_wordIs 13 = .ok (.invokevirtual 177, 3) := gd_X4_wordIs_0.2.2.2.2.2.2.2.1
theorem dX4_wordIs_16 : decode cX4_wordIs 16 = .ok (.if_icmp .eq 5, 3) := gd_X4_wordIs_0.2.2.2.2.2.2.2.2.1
theorem dX4_wordIs_19 : decode cX4_wordIs 19 = .ok (.iconst 0, 1) := gd_X4_wordIs_0.2.2.2.2.2.2.2.2.2
theorem gd_X4_wordIs_20 : decode cX4_wordIs 20 = .ok (.ireturn, 1) ∧ decode cX4_wordIs 21 = .ok (.iconst 0, 1) ∧ decode cX4_wordIs 22 = .ok (.istore_n 2, 1) ∧ decode cX4_wordIs 23 = .ok (.iload_n 2, 1) ∧ decode cX4_wordIs 24 = .ok (.aload_n 0, 1) ∧ decode cX4_wordIs 25 = .ok (.getfield 37, 3) ∧ decode cX4_wordIs 28 = .ok (.if_icmp .ge 30, 3) ∧ decode cX4_wordIs 31 = .ok (.aload_n 0, 1) ∧ decode cX4_wordIs 32 = .ok (.getfield 18, 3) ∧ decode cX4_wordIs 35 = .ok (.aload_n 0, 1) := by decide +kernel
theorem dX4_wordIs_20 : decode cX4_wordIs 20 = .ok (.ireturn, 1) := gd_X4_wordIs_20.1
theorem dX4_wordIs_21 : decode cX4_wordIs 21 = .ok (.iconst 0, 1) := gd_X4_wordIs_20.2.1
theorem dX4_wordIs_22 : decode cX4_wordIs 22 = .ok (.istore_n 2, 1) := gd_X4_wordIs_20.2.2.1
theorem dX4_wordIs_23 : decode cX4_wordIs 23 = .ok (.iload_n 2, 1) := gd_X4_wordIs_20.2.2.2.1
theorem dX4_wordIs_24 : decode cX4_wordIs 24 = .ok (.aload_n 0, 1) := gd_X4_wordIs_20.2.2.2.2.1
theorem dX4_wordIs_25 : decode cX4_wordIs 25 = .ok (.getfield 37, 3) := gd_X4_wordIs_20.2.2.2.2.2.1
theorem dX4_wordIs_28 : decode cX4_wordIs 28 = .ok (.if_icmp .ge 30, 3) := gd_X4_wordIs_20.2.2.2.2.2.2.1
theorem dX4_wordIs_31 : decode cX4_wordIs 31 = .ok (.aload_n 0, 1) := gd_X4_wordIs_20.2.2.2.2.2.2.2.1
theorem dX4_wordIs_32 : decode cX4_wordIs 32 = .ok (.getfield 18, 3) := gd_X4_wordIs_20.2.2.2.2.2.2.2.2.1
theorem dX4_wordIs_35 : decode cX4_wordIs 35 = .ok (.aload_n 0, 1) := gd_X4_wordIs_20.2.2.2.2.2.2.2.2.2
theorem gd_X4_wordIs_36 : decode cX4_wordIs 36 = .ok (.getfield 34, 3) ∧ decode cX4_wordIs 39 = .ok (.iload_n 2, 1) ∧ decode cX4_wordIs 40 = .ok (.iadd, 1) ∧ decode cX4_wordIs 41 = .ok (.baload, 1) ∧ decode cX4_wordIs 42 = .ok (.aload_n 1, 1) ∧ decode cX4_wordIs 43 = .ok (.iload_n 2, 1) ∧ decode cX4_wordIs 44 = .ok (.invokevirtual 182, 3) ∧ decode cX4_wordIs 47 = .ok (.if_icmp .eq 5, 3) ∧ decode cX4_wordIs 50 = .ok (.iconst 0, 1) ∧ decode cX4_wordIs 51 = .ok (.ireturn, 1) := by decide +kernel
theorem dX4_wordIs_36 : decode cX4_wordIs 36 = .ok (.getfield 34, 3) := gd_X4_wordIs_36.1
theorem dX4_wordIs_39 : decode cX4_wordIs 39 = .ok (.iload_n 2, 1) := gd_X4_wordIs_36.2.1
theorem dX4_wordIs_40 : decode cX4_wordIs 40 = .ok (.iadd, 1) := gd_X4_wordIs_36.2.2.1
theorem dX4_wordIs_41 : decode cX4_wordIs 41 = .ok (.baload, 1) := gd_X4_wordIs_36.2.2.2.1
theorem dX4_wordIs_42 : decode cX4_wordIs 42 = .ok (.aload_n 1, 1) := gd_X4_wordIs_36.2.2.2.2.1
theorem dX4_wordIs_43 : decode cX4_wordIs 43 = .ok (.iload_n 2, 1) := gd_X4_wordIs_36.2.2.2.2.2.1
theorem dX4_wordIs_44 : decode cX4_wordIs 44 = .ok (.invokevirtual 182, 3) := gd_X4_wordIs_36.2.2.2.2.2.2.1
theorem dX4_wordIs_47 : decode cX4_wordIs 47 = .ok (.if_icmp .eq 5, 3) := gd_X4_wordIs_36.2.2.2.2.2.2.2.1
theorem dX4_wordIs_50 : decode cX4_wordIs 50 = .ok (.iconst 0, 1) := gd_X4_wordIs_36.2.2.2.2.2.2.2.2.1
theorem dX4_wordIs_51 : decode cX4_wordIs 51 = .ok (.ireturn, 1) := gd_X4_wordIs_36.2.2.2.2.2.2.2.2.2
theorem gd_X4_wordIs_52 : decode cX4_wordIs 52 = .ok (.iinc 2 1, 3) ∧ decode cX4_wordIs 55 = .ok (.goto (-32), 3) ∧ decode cX4_wordIs 58 = .ok (.iconst 1, 1) ∧ decode cX4_wordIs 59 = .ok (.ireturn, 1) ∧ decode cX4_nextToken 11 = .ok (.aload_n 0, 1) ∧ decode cX4_nextToken 12 = .ok (.getfield 18, 3) ∧ decode cX4_nextToken 15 = .ok (.aload_n 0, 1) ∧ decode cX4_nextToken 16 = .ok (.getfield 25, 3) ∧ decode cX4_nextToken 19 = .ok (.baload, 1) ∧ decode cX4_nextToken 20 = .ok (.bipush 32, 2) := by decide +kernel
theorem dX4_wordIs_52 : decode cX4_wordIs 52 = .ok (.iinc 2 1, 3) := gd_X4_wordIs_52.1
theorem dX4_wordIs_55 : decode cX4_wordIs 55 = .ok (.goto (-32), 3) := gd_X4_wordIs_52.2.1
theorem dX4_wordIs_58 : decode cX4_wordIs 58 = .ok (.iconst 1, 1) := gd_X4_wordIs_52.2.2.1
theorem dX4_wordIs_59 : decode cX4_wordIs 59 = .ok (.ireturn, 1) := gd_X4_wordIs_52.2.2.2.1
theorem dX4_nextToken_11 : decode cX4_nextToken 11 = .ok (.aload_n 0, 1) := gd_X4_wordIs_52.2.2.2.2.1
theorem dX4_nextToken_12 : decode cX4_nextToken 12 = .ok (.getfield 18, 3) := gd_X4_wordIs_52.2.2.2.2.2.1
theorem dX4_nextToken_15 : decode cX4_nextToken 15 = .ok (.aload_n 0, 1) := gd_X4_wordIs_52.2.2.2.2.2.2.1
theorem dX4_nextToken_16 : decode cX4_nextToken 16 = .ok (.getfield 25, 3) := gd_X4_wordIs_52.2.2.2.2.2.2.2.1
theorem dX4_nextToken_19 : decode cX4_nextToken 19 = .ok (.baload, 1) := gd_X4_wordIs_52.2.2.2.2.2.2.2.2.1
theorem dX4_nextToken_20 : decode cX4_nextToken 20 = .ok (.bipush 32, 2) := gd_X4_wordIs_52.2.2.2.2.2.2.2.2.2
theorem gd_X4_nextToken_22 : decode cX4_nextToken 22 = .ok (.if_icmp .eq 17, 3) ∧ decode cX4_nextToken 25 = .ok (.aload_n 0, 1) ∧ decode cX4_nextToken 26 = .ok (.getfield 18, 3) ∧ decode cX4_nextToken 29 = .ok (.aload_n 0, 1) ∧ decode cX4_nextToken 30 = .ok (.getfield 25, 3) ∧ decode cX4_nextToken 33 = .ok (.baload, 1) ∧ decode cX4_nextToken 34 = .ok (.bipush 10, 2) ∧ decode cX4_nextToken 36 = .ok (.if_icmp .ne 16, 3) ∧ decode cX4_nextToken 39 = .ok (.aload_n 0, 1) ∧ decode cX4_nextToken 40 = .ok (.dup, 1) := by decide +kernel
theorem dX4_nextToken_22 : decode cX4_nextToken 22 = .ok (.if_icmp .eq 17, 3) := gd_X4_nextToken_22.1
theorem dX4_nextToken_25 : decode cX4_nextToken 25 = .ok (.aload_n 0, 1) := gd_X4_nextToken_22.2.1
theorem dX4_nextToken_26 : decode cX4_nextToken 26 = .ok (.getfield 18, 3) := gd_X4_nextToken_22.2.2.1
theorem dX4_nextToken_29 : decode cX4_nextToken 29 = .ok (.aload_n 0, 1) := gd_X4_nextToken_22.2.2.2.1
theorem dX4_nextToken_30 : decode cX4_nextToken 30 = .ok (.getfield 25, 3) := gd_X4_nextToken_22.2.2.2.2.1
theorem dX4_nextToken_33 : decode cX4_nextToken 33 = .ok (.baload, 1) := gd_X4_nextToken_22.2.2.2.2.2.1
theorem dX4_nextToken_34 : decode cX4_nextToken 34 = .ok (.bipush 10, 2) := gd_X4_nextToken_22.2.2.2.2.2.2.1
theorem dX4_nextToken_36 : decode cX4_nextToken 36 = .ok (.if_icmp .ne 16, 3) := gd_X4_nextToken_22.2.2.2.2.2.2.2.1
theorem dX4_nextToken_39 : decode cX4_nextToken 39 = .ok (.aload_n 0, 1) := gd_X4_nextToken_22.2.2.2.2.2.2.2.2.1
theorem dX4_nextToken_40 : decode cX4_nextToken 40 = .ok (.dup, 1) := gd_X4_nextToken_22.2.2.2.2.2.2.2.2.2
theorem gd_X4_nextToken_41 : decode cX4_nextToken 41 = .ok (.getfield 25, 3) ∧ decode cX4_nextToken 44 = .ok (.iconst 1, 1) ∧ decode cX4_nextToken 45 = .ok (.iadd, 1) ∧ decode cX4_nextToken 46 = .ok (.putfield 25, 3) ∧ decode cX4_nextToken 49 = .ok (.goto (-49), 3) ∧ decode cX4_nextToken 84 = .ok (.aload_n 0, 1) ∧ decode cX4_nextToken 85 = .ok (.getfield 18, 3) ∧ decode cX4_nextToken 88 = .ok (.aload_n 0, 1) ∧ decode cX4_nextToken 89 = .ok (.getfield 25, 3) ∧ decode cX4_nextToken 92 = .ok (.baload, 1) := by decide +kernel
theorem dX4_nextToken_41 : decode cX4_nextToken 41 = .ok (.getfield 25, 3) := gd_X4_nextToken_41.1
theorem dX4_nextToken_44 : decode cX4_nextToken 44 = .ok (.iconst 1, 1) := gd_X4_nextToken_41.2.1
theorem dX4_nextToken_45 : decode cX4_nextToken 45 = .ok (.iadd, 1) := gd_X4_nextToken_41.2.2.1
theorem dX4_nextToken_46 : decode cX4_nextToken 46 = .ok (.putfield 25, 3) := gd_X4_nextToken_41.2.2.2.1
theorem dX4_nextToken_49 : decode cX4_nextToken 49 = .ok (.goto (-49), 3) := gd_X4_nextToken_41.2.2.2.2.1
theorem dX4_nextToken_84 : decode cX4_nextToken 84 = .ok (.aload_n 0, 1) := gd_X4_nextToken_41.2.2.2.2.2.1
theorem dX4_nextToken_85 : decode cX4_nextToken 85 = .ok (.getfield 18, 3) := gd_X4_nextToken_41.2.2.2.2.2.2.1
theorem dX4_nextToken_88 : decode cX4_nextToken 88 = .ok (.aload_n 0, 1) := gd_X4_nextToken_41.2.2.2.2.2.2.2.1
theorem dX4_nextToken_89 : decode cX4_nextToken 89 = .ok (.getfield 25, 3) := gd_X4_nextToken_41.2.2.2.2.2.2.2.2.1
theorem dX4_nextToken_92 : decode cX4_nextToken 92 = .ok (.baload, 1) := gd_X4_nextToken_41.2.2.2.2.2.2.2.2.2
theorem gd_X4_nextToken_93 : decode cX4_nextToken 93 = .ok (.bipush 59, 2) ∧ decode cX4_nextToken 95 = .ok (.if_icmp .ne 21, 3) ∧ decode cX4_nextToken 98 = .ok (.aload_n 0, 1) ∧ decode cX4_nextToken 99 = .ok (.iconst 3, 1) ∧ decode cX4_nextToken 100 = .ok (.putfield 28, 3) ∧ decode cX4_nextToken 103 = .ok (.aload_n 0, 1) ∧ decode cX4_nextToken 104 = .ok (.dup, 1) ∧ decode cX4_nextToken 105 = .ok (.getfield 25, 3) ∧ decode cX4_nextToken 108 = .ok (.iconst 1, 1) ∧ decode cX4_nextToken 109 = .ok (.iadd, 1) := by decide +kernel
theorem dX4_nextToken_93 : decode cX4_nextToken 93 = .ok (.bipush 59, 2) := gd_X4_nextToken_93.1
theorem dX4_nextToken_95 : decode cX4_nextToken 95 = .ok (.if_icmp .ne 21, 3) := gd_X4_nextToken_93.2.1
theorem dX4_nextToken_98 : decode cX4_nextToken 98 = .ok (.aload_n 0, 1) := gd_X4_nextToken_93.2.2.1
theorem dX4_nextToken_99 : decode cX4_nextToken 99 = .ok (.iconst 3, 1) := gd_X4_nextToken_93.2.2.2.1
theorem dX4_nextToken_100 : decode cX4_nextToken 100 = .ok (.putfield 28, 3) := gd_X4_nextToken_93.2.2.2.2.1
theorem dX4_nextToken_103 : decode cX4_nextToken 103 = .ok (.aload_n 0, 1) := gd_X4_nextToken_93.2.2.2.2.2.1
theorem dX4_nextToken_104 : decode cX4_nextToken 104 = .ok (.dup, 1) := gd_X4_nextToken_93.2.2.2.2.2.2.1
theorem dX4_nextToken_105 : decode cX4_nextToken 105 = .ok (.getfield 25, 3) := gd_X4_nextToken_93.2.2.2.2.2.2.2.1
theorem dX4_nextToken_108 : decode cX4_nextToken 108 = .ok (.iconst 1, 1) := gd_X4_nextToken_93.2.2.2.2.2.2.2.2.1
theorem dX4_nextToken_109 : decode cX4_nextToken 109 = .ok (.iadd, 1) := gd_X4_nextToken_93.2.2.2.2.2.2.2.2.2
theorem gd_X4_nextToken_110 : decode cX4_nextToken 110 = .ok (.putfield 25, 3) ∧ decode cX4_nextToken 113 = .ok (.goto 104, 3) ∧ decode cX4_nextToken 116 = .ok (.aload_n 0, 1) ∧ decode cX4_nextToken 117 = .ok (.getfield 18, 3) ∧ decode cX4_nextToken 120 = .ok (.aload_n 0, 1) ∧ decode cX4_nextToken 121 = .ok (.getfield 25, 3) ∧ decode cX4_nextToken 124 = .ok (.baload, 1) ∧ decode cX4_nextToken 125 = .ok (.bipush 39, 2) ∧ decode cX4_nextToken 127 = .ok (.if_icmp .ne 66, 3) ∧ decode cX4_nextToken 130 = .ok (.aload_n 0, 1) := by decide +kernel
theorem dX4_nextToken_110 : decode cX4_nextToken 110 = .ok (.putfield 25, 3) := gd_X4_nextToken_110.1
theorem dX4_nextToken_113 : decode cX4_nextToken 113 = .ok (.goto 104, 3) := gd_X4_nextToken_110.2.1
theorem dX4_nextToken_116 : decode cX4_nextToken 116 = .ok (.aload_n 0, 1) := gd_X4_nextToken_110.2.2.1
theorem dX4_nextToken_117 : decode cX4_nextToken 117 = .ok (.getfield 18, 3) := gd_X4_nextToken_110.2.2.2.1
theorem dX4_nextToken_120 : decode cX4_nextToken 120 = .ok (.aload_n 0, 1) := gd_X4_nextToken_110.2.2.2.2.1
theorem dX4_nextToken_121 : decode cX4_nextToken 121 = .ok (.getfield 25, 3) := gd_X4_nextToken_110.2.2.2.2.2.1
theorem dX4_nextToken_124 : decode cX4_nextToken 124 = .ok (.baload, 1) := gd_X4_nextToken_110.2.2.2.2.2.2.1
theorem dX4_nextToken_125 : decode cX4_nextToken 125 = .ok (.bipush 39, 2) := gd_X4_nextToken_110.2.2.2.2.2.2.2.1
theorem dX4_nextToken_127 : decode cX4_nextToken 127 = .ok (.if_icmp .ne 66, 3) := gd_X4_nextToken_110.2.2.2.2.2.2.2.2.1
theorem dX4_nextToken_130 : decode cX4_nextToken 130 = .ok (.aload_n 0, 1) := gd_X4_nextToken_110.2.2.2.2.2.2.2.2.2
theorem gd_X4_nextToken_131 : decode cX4_nextToken 131 = .ok (.dup, 1) ∧ decode cX4_nextToken 132 = .ok (.getfield 25, 3) ∧ decode cX4_nextToken 135 = .ok (.iconst 1, 1) ∧ decode cX4_nextToken 136 = .ok (.iadd, 1) ∧ decode cX4_nextToken 137 = .ok (.putfield 25, 3) ∧ decode cX4_nextToken 140 = .ok (.aload_n 0, 1) ∧ decode cX4_nextToken 141 = .ok (.bipush 16, 2) ∧ decode cX4_nextToken 143 = .ok (.invokevirtual 186, 3) ∧ decode cX4_nextToken 146 = .ok (.aload_n 0, 1) ∧ decode cX4_nextToken 147 = .ok (.aload_n 0, 1) := by decide +kernel
theorem dX4_nextToken_131 : decode cX4_nextToken 131 = .ok (.dup, 1) := gd_X4_nextToken_131.1
theorem dX4_nextToken_132 : decode cX4_nextToken 132 = .ok (.getfield 25, 3) := gd_X4_nextToken_131.2.1
theorem dX4_nextToken_135 : decode cX4_nextToken 135 = .ok (.iconst 1, 1) := gd_X4_nextToken_131.2.2.1
theorem dX4_nextToken_136 : decode cX4_nextToken 136 = .ok (.iadd, 1) := gd_X4_nextToken_131.2.2.2.1
theorem dX4_nextToken_137 : decode cX4_nextToken 137 = .ok (.putfield 25, 3) := gd_X4_nextToken_131.2.2.2.2.1
theorem dX4_nextToken_140 : decode cX4_nextToken 140 = .ok (.aload_n 0, 1) := gd_X4_nextToken_131.2.2.2.2.2.1
theorem dX4_nextToken_141 : decode cX4_nextToken 141 = .ok (.bipush 16, 2) := gd_X4_nextToken_131.2.2.2.2.2.2.1
theorem dX4_nextToken_143 : decode cX4_nextToken 143 = .ok (.invokevirtual 186, 3) := gd_X4_nextToken_131.2.2.2.2.2.2.2.1
theorem dX4_nextToken_146 : decode cX4_nextToken 146 = .ok (.aload_n 0, 1) := gd_X4_nextToken_131.2.2.2.2.2.2.2.2.1
theorem dX4_nextToken_147 : decode cX4_nextToken 147 = .ok (.aload_n 0, 1) := gd_X4_nextToken_131.2.2.2.2.2.2.2.2.2
theorem gd_X4_nextToken_148 : decode cX4_nextToken 148 = .ok (.getfield 25, 3) ∧ decode cX4_nextToken 151 = .ok (.aload_n 0, 1) ∧ decode cX4_nextToken 152 = .ok (.getfield 22, 3) ∧ decode cX4_nextToken 155 = .ok (.if_icmp .ge 21, 3) ∧ decode cX4_nextToken 158 = .ok (.aload_n 0, 1) ∧ decode cX4_nextToken 159 = .ok (.getfield 18, 3) ∧ decode cX4_nextToken 162 = .ok (.aload_n 0, 1) ∧ decode cX4_nextToken 163 = .ok (.getfield 25, 3) ∧ decode cX4_nextToken 166 = .ok (.baload, 1) ∧ decode cX4_nextToken 167 = .ok (.bipush 39, 2) := by decide +kernel
theorem dX4_nextToken_148 : decode cX4_nextToken 148 = .ok (.getfield 25, 3) := gd_X4_nextToken_148.1
theorem dX4_nextToken_151 : decode cX4_nextToken 151 = .ok (.aload_n 0, 1) := gd_X4_nextToken_148.2.1
theorem dX4_nextToken_152 : decode cX4_nextToken 152 = .ok (.getfield 22, 3) := gd_X4_nextToken_148.2.2.1
theorem dX4_nextToken_155 : decode cX4_nextToken 155 = .ok (.if_icmp .ge 21, 3) := gd_X4_nextToken_148.2.2.2.1
theorem dX4_nextToken_158 : decode cX4_nextToken 158 = .ok (.aload_n 0, 1) := gd_X4_nextToken_148.2.2.2.2.1
theorem dX4_nextToken_159 : decode cX4_nextToken 159 = .ok (.getfield 18, 3) := gd_X4_nextToken_148.2.2.2.2.2.1
theorem dX4_nextToken_162 : decode cX4_nextToken 162 = .ok (.aload_n 0, 1) := gd_X4_nextToken_148.2.2.2.2.2.2.1
theorem dX4_nextToken_163 : decode cX4_nextToken 163 = .ok (.getfield 25, 3) := gd_X4_nextToken_148.2.2.2.2.2.2.2.1
theorem dX4_nextToken_166 : decode cX4_nextToken 166 = .ok (.baload, 1) := gd_X4_nextToken_148.2.2.2.2.2.2.2.2.1
theorem dX4_nextToken_167 : decode cX4_nextToken 167 = .ok (.bipush 39, 2) := gd_X4_nextToken_148.2.2.2.2.2.2.2.2.2
theorem gd_X4_nextToken_169 : decode cX4_nextToken 169 = .ok (.if_icmp .ne 7, 3) ∧ decode cX4_nextToken 172 = .ok (.iconst 2, 1) ∧ decode cX4_nextToken 173 = .ok (.goto 4, 3) ∧ decode cX4_nextToken 176 = .ok (.iconst 4, 1) ∧ decode cX4_nextToken 177 = .ok (.putfield 28, 3) ∧ decode cX4_nextToken 180 = .ok (.aload_n 0, 1) ∧ decode cX4_nextToken 181 = .ok (.dup, 1) ∧ decode cX4_nextToken 182 = .ok (.getfield 25, 3) ∧ decode cX4_nextToken 185 = .ok (.iconst 1, 1) ∧ decode cX4_nextToken 186 = .ok (.iadd, 1) := by decide +kernel
theorem dX4_nextToken_169 : decode cX4_nextToken 169 = .ok (.if_icmp .ne 7, 3) := gd_X4_nextToken_169.1
theorem dX4_nextToken_172 : decode cX4_nextToken 172 = .ok (.iconst 2, 1) := gd_X4_nextToken_169.2.1
theorem dX4_nextToken_173 : decode cX4_nextToken 173 = .ok (.goto 4, 3) := gd_X4_nextToken_169.2.2.1
theorem dX4_nextToken_176 : decode cX4_nextToken 176 = .ok (.iconst 4, 1) := gd_X4_nextToken_169.2.2.2.1
theorem dX4_nextToken_177 : decode cX4_nextToken 177 = .ok (.putfield 28, 3) := gd_X4_nextToken_169.2.2.2.2.1
theorem dX4_nextToken_180 : decode cX4_nextToken 180 = .ok (.aload_n 0, 1) := gd_X4_nextToken_169.2.2.2.2.2.1
theorem dX4_nextToken_181 : decode cX4_nextToken 181 = .ok (.dup, 1) := gd_X4_nextToken_169.2.2.2.2.2.2.1
theorem dX4_nextToken_182 : decode cX4_nextToken 182 = .ok (.getfield 25, 3) := gd_X4_nextToken_169.2.2.2.2.2.2.2.1
theorem dX4_nextToken_185 : decode cX4_nextToken 185 = .ok (.iconst 1, 1) := gd_X4_nextToken_169.2.2.2.2.2.2.2.2.1
theorem dX4_nextToken_186 : decode cX4_nextToken 186 = .ok (.iadd, 1) := gd_X4_nextToken_169.2.2.2.2.2.2.2.2.2
theorem gd_X4_nextToken_187 : decode cX4_nextToken 187 = .ok (.putfield 25, 3) ∧ decode cX4_nextToken 190 = .ok (.goto 27, 3) ∧ decode cX4_nextToken 193 = .ok (.aload_n 0, 1) ∧ decode cX4_nextToken 194 = .ok (.aload_n 0, 1) ∧ decode cX4_nextToken 195 = .ok (.getfield 22, 3) ∧ decode cX4_nextToken 198 = .ok (.invokevirtual 186, 3) ∧ decode cX4_nextToken 201 = .ok (.aload_n 0, 1) ∧ decode cX4_nextToken 202 = .ok (.aload_n 0, 1) ∧ decode cX4_nextToken 203 = .ok (.getfield 37, 3) ∧ decode cX4_nextToken 206 = .ok (.ifCond .le 7, 3) := by decide +kernel
theorem dX4_nextToken_187 : decode cX4_nextToken 187 = .ok (.putfield 25, 3) := gd_X4_nextToken_187.1
theorem dX4_nextToken_190 : decode cX4_nextToken 190 = .ok (.goto 27, 3) := gd_X4_nextToken_187.2.1
theorem dX4_nextToken_193 : decode cX4_nextToken 193 = .ok (.aload_n 0, 1) := gd_X4_nextToken_187.2.2.1
theorem dX4_nextToken_194 : decode cX4_nextToken 194 = .ok (.aload_n 0, 1) := gd_X4_nextToken_187.2.2.2.1
theorem dX4_nextToken_195 : decode cX4_nextToken 195 = .ok (.getfield 22, 3) := gd_X4_nextToken_187.2.2.2.2.1
theorem dX4_nextToken_198 : decode cX4_nextToken 198 = .ok (.invokevirtual 186, 3) := gd_X4_nextToken_187.2.2.2.2.2.1
theorem dX4_nextToken_201 : decode cX4_nextToken 201 = .ok (.aload_n 0, 1) := gd_X4_nextToken_187.2.2.2.2.2.2.1
theorem dX4_nextToken_202 : decode cX4_nextToken 202 = .ok (.aload_n 0, 1) := gd_X4_nextToken_187.2.2.2.2.2.2.2.1
theorem dX4_nextToken_203 : decode cX4_nextToken 203 = .ok (.getfield 37, 3) := gd_X4_nextToken_187.2.2.2.2.2.2.2.2.1
theorem dX4_nextToken_206 : decode cX4_nextToken 206 = .ok (.ifCond .le 7, 3) := gd_X4_nextToken_187.2.2.2.2.2.2.2.2.2
theorem gd_X4_nextToken_209 : decode cX4_nextToken 209 = .ok (.iconst 1, 1) ∧ decode cX4_nextToken 210 = .ok (.goto 4, 3) ∧ decode cX4_nextToken 213 = .ok (.iconst 4, 1) ∧ decode cX4_nextToken 214 = .ok (.putfield 28, 3) ∧ decode cX4_scanRun 0 = .ok (.aload_n 0, 1) ∧ decode cX4_scanRun 1 = .ok (.aload_n 0, 1) ∧ decode cX4_scanRun 2 = .ok (.getfield 25, 3) ∧ decode cX4_scanRun 5 = .ok (.putfield 34, 3) ∧ decode cX4_scanRun 8 = .ok (.aload_n 0, 1) ∧ decode cX4_scanRun 9 = .ok (.getfield 25, 3) := by decide +kernel
theorem dX4_nextToken_209 : decode cX4_nextToken 209 = .ok (.iconst 1, 1) := gd_X4_nextToken_209.1
theorem dX4_nextToken_210 : decode cX4_nextToken 210 = .ok (.goto 4, 3) := gd_X4_nextToken_209.2.1
theorem dX4_nextToken_213 : decode cX4_nextToken 213 = .ok (.iconst 4, 1) := gd_X4_nextToken_209.2.2.1
theorem dX4_nextToken_214 : decode cX4_nextToken 214 = .ok (.putfield 28, 3) := gd_X4_nextToken_209.2.2.2.1
theorem dX4_scanRun_0 : decode cX4_scanRun 0 = .ok (.aload_n 0, 1) := gd_X4_nextToken_209.2.2.2.2.1
theorem dX4_scanRun_1 : decode cX4_scanRun 1 = .ok (.aload_n 0, 1) := gd_X4_nextToken_209.2.2.2.2.2.1
theorem dX4_scanRun_2 : decode cX4_scanRun 2 = .ok (.getfield 25, 3) := gd_X4_nextToken_209.2.2.2.2.2.2.1
theorem dX4_scanRun_5 : decode cX4_scanRun 5 = .ok (.putfield 34, 3) := gd_X4_nextToken_209.2.2.2.2.2.2.2.1
theorem dX4_scanRun_8 : decode cX4_scanRun 8 = .ok (.aload_n 0, 1) := gd_X4_nextToken_209.2.2.2.2.2.2.2.2.1
theorem dX4_scanRun_9 : decode cX4_scanRun 9 = .ok (.getfield 25, 3) := gd_X4_nextToken_209.2.2.2.2.2.2.2.2.2
theorem gd_X4_scanRun_12 : decode cX4_scanRun 12 = .ok (.aload_n 0, 1) ∧ decode cX4_scanRun 13 = .ok (.getfield 22, 3) ∧ decode cX4_scanRun 16 = .ok (.if_icmp .ge 49, 3) ∧ decode cX4_scanRun 19 = .ok (.aload_n 0, 1) ∧ decode cX4_scanRun 20 = .ok (.getfield 37, 3) ∧ decode cX4_scanRun 23 = .ok (.iload_n 1, 1) ∧ decode cX4_scanRun 24 = .ok (.if_icmp .ge 41, 3) ∧ decode cX4_scanRun 27 = .ok (.aload_n 0, 1) ∧ decode cX4_scanRun 28 = .ok (.getfield 18, 3) ∧ decode cX4_scanRun 31 = .ok (.aload_n 0, 1) := by decide +kernel
theorem dX4_scanRun_12 : decode cX4_scanRun 12 = .ok (.aload_n 0, 1) := gd_X4_scanRun_12.1
theorem dX4_scanRun_13 : decode cX4_scanRun 13 = .ok (.getfield 22, 3) := gd_X4_scanRun_12.2.1
theorem dX4_scanRun_16 : decode cX4_scanRun 16 = .ok (.if_icmp .ge 49, 3) := gd_X4_scanRun_12.2.2.1
theorem dX4_scanRun_19 : decode cX4_scanRun 19 = .ok (.aload_n 0, 1) := gd_X4_scanRun_12.2.2.2.1
theorem dX4_scanRun_20 : decode cX4_scanRun 20 = .ok (.getfield 37, 3) := gd_X4_scanRun_12.2.2.2.2.1
theorem dX4_scanRun_23 : decode cX4_scanRun 23 = .ok (.iload_n 1, 1) := gd_X4_scanRun_12.2.2.2.2.2.1
theorem dX4_scanRun_24 : decode cX4_scanRun 24 = .ok (.if_icmp .ge 41, 3) := gd_X4_scanRun_12.2.2.2.2.2.2.1
theorem dX4_scanRun_27 : decode cX4_scanRun 27 = .ok (.aload_n 0, 1) := gd_X4_scanRun_12.2.2.2.2.2.2.2.1
theorem dX4_scanRun_28 : decode cX4_scanRun 28 = .ok (.getfield 18, 3) := gd_X4_scanRun_12.2.2.2.2.2.2.2.2.1
theorem dX4_scanRun_31 : decode cX4_scanRun 31 = .ok (.aload_n 0, 1) := gd_X4_scanRun_12.2.2.2.2.2.2.2.2.2
theorem gd_X4_scanRun_32 : decode cX4_scanRun 32 = .ok (.getfield 25, 3) ∧ decode cX4_scanRun 35 = .ok (.baload, 1) ∧ decode cX4_scanRun 36 = .ok (.invokestatic 190, 3) ∧ decode cX4_scanRun 39 = .ok (.ifCond .eq 26, 3) ∧ decode cX4_scanRun 42 = .ok (.aload_n 0, 1) ∧ decode cX4_scanRun 43 = .ok (.dup, 1) ∧ decode cX4_scanRun 44 = .ok (.getfield 37, 3) ∧ decode cX4_scanRun 47 = .ok (.iconst 1, 1) ∧ decode cX4_scanRun 48 = .ok (.iadd, 1) ∧ decode cX4_scanRun 49 = .ok (.putfield 37, 3) := by decide +kernel
theorem dX4_scanRun_32 : decode cX4_scanRun 32 = .ok (.getfield 25, 3) := gd_X4_scanRun_32.1
theorem dX4_scanRun_35 : decode cX4_scanRun 35 = .ok (.baload, 1) := gd_X4_scanRun_32.2.1
theorem dX4_scanRun_36 : decode cX4_scanRun 36 = .ok (.invokestatic 190, 3) := gd_X4_scanRun_32.2.2.1
theorem dX4_scanRun_39 : decode cX4_scanRun 39 = .ok (.ifCond .eq 26, 3) := gd_X4_scanRun_32.2.2.2.1
theorem dX4_scanRun_42 : decode cX4_scanRun 42 = .ok (.aload_n 0, 1) := gd_X4_scanRun_32.2.2.2.2.1
theorem dX4_scanRun_43 : decode cX4_scanRun 43 = .ok (.dup, 1) := gd_X4_scanRun_32.2.2.2.2.2.1
theorem dX4_scanRun_44 : decode cX4_scanRun 44 = .ok (.getfield 37, 3) := gd_X4_scanRun_32.2.2.2.2.2.2.1
theorem dX4_scanRun_47 : decode cX4_scanRun 47 = .ok (.iconst 1, 1) := gd_X4_scanRun_32.2.2.2.2.2.2.2.1
theorem dX4_scanRun_48 : decode cX4_scanRun 48 = .ok (.iadd, 1) := gd_X4_scanRun_32.2.2.2.2.2.2.2.2.1
theorem dX4_scanRun_49 : decode cX4_scanRun 49 = .ok (.putfield 37, 3) := gd_X4_scanRun_32.2.2.2.2.2.2.2.2.2
theorem gd_X4_scanRun_52 : decode cX4_scanRun 52 = .ok (.aload_n 0, 1) ∧ decode cX4_scanRun 53 = .ok (.dup, 1) ∧ decode cX4_scanRun 54 = .ok (.getfield 25, 3) ∧ decode cX4_scanRun 57 = .ok (.iconst 1, 1) ∧ decode cX4_scanRun 58 = .ok (.iadd, 1) ∧ decode cX4_scanRun 59 = .ok (.putfield 25, 3) ∧ decode cX4_scanRun 62 = .ok (.goto (-54), 3) ∧ decode cX4_scanRun 65 = .ok (.return_, 1) ∧ decode cX6_leaveName 0 = .ok (.aload_n 0, 1) ∧ decode cX6_leaveName 1 = .ok (.getfield 22, 3) := by decide +kernel
theorem dX4_scanRun_52 : decode cX4_scanRun 52 = .ok (.aload_n 0, 1) := gd_X4_scanRun_52.1
theorem dX4_scanRun_53 : decode cX4_scanRun 53 = .ok (.dup, 1) := gd_X4_scanRun_52.2.1
theorem dX4_scanRun_54 : decode cX4_scanRun 54 = .ok (.getfield 25, 3) := gd_X4_scanRun_52.2.2.1
theorem dX4_scanRun_57 : decode cX4_scanRun 57 = .ok (.iconst 1, 1) := gd_X4_scanRun_52.2.2.2.1
theorem dX4_scanRun_58 : decode cX4_scanRun 58 = .ok (.iadd, 1) := gd_X4_scanRun_52.2.2.2.2.1
theorem dX4_scanRun_59 : decode cX4_scanRun 59 = .ok (.putfield 25, 3) := gd_X4_scanRun_52.2.2.2.2.2.1
theorem dX4_scanRun_62 : decode cX4_scanRun 62 = .ok (.goto (-54), 3) := gd_X4_scanRun_52.2.2.2.2.2.2.1
theorem dX4_scanRun_65 : decode cX4_scanRun 65 = .ok (.return_, 1) := gd_X4_scanRun_52.2.2.2.2.2.2.2.1
theorem dX6_leaveName_0 : decode cX6_leaveName 0 = .ok (.aload_n 0, 1) := gd_X4_scanRun_52.2.2.2.2.2.2.2.2.1
theorem dX6_leaveName_1 : decode cX6_leaveName 1 = .ok (.getfield 22, 3) := gd_X4_scanRun_52.2.2.2.2.2.2.2.2.2
theorem gd_X6_leaveName_4 : decode cX6_leaveName 4 = .ok (.iconst 4, 1) ∧ decode cX6_leaveName 5 = .ok (.dup2, 1) ∧ decode cX6_leaveName 6 = .ok (.iaload, 1) ∧ decode cX6_leaveName 7 = .ok (.iconst 1, 1) ∧ decode cX6_leaveName 8 = .ok (.iadd, 1) ∧ decode cX6_leaveName 9 = .ok (.iastore, 1) ∧ decode cX6_leaveName 10 = .ok (.return_, 1) ∧ decode cX6_leaveLost 0 = .ok (.aload_n 0, 1) ∧ decode cX6_leaveLost 1 = .ok (.getfield 22, 3) ∧ decode cX6_leaveLost 4 = .ok (.iconst 0, 1) := by decide +kernel
theorem dX6_leaveName_4 : decode cX6_leaveName 4 = .ok (.iconst 4, 1) := gd_X6_leaveName_4.1
theorem dX6_leaveName_5 : decode cX6_leaveName 5 = .ok (.dup2, 1) := gd_X6_leaveName_4.2.1
theorem dX6_leaveName_6 : decode cX6_leaveName 6 = .ok (.iaload, 1) := gd_X6_leaveName_4.2.2.1
theorem dX6_leaveName_7 : decode cX6_leaveName 7 = .ok (.iconst 1, 1) := gd_X6_leaveName_4.2.2.2.1
theorem dX6_leaveName_8 : decode cX6_leaveName 8 = .ok (.iadd, 1) := gd_X6_leaveName_4.2.2.2.2.1
theorem dX6_leaveName_9 : decode cX6_leaveName 9 = .ok (.iastore, 1) := gd_X6_leaveName_4.2.2.2.2.2.1
theorem dX6_leaveName_10 : decode cX6_leaveName 10 = .ok (.return_, 1) := gd_X6_leaveName_4.2.2.2.2.2.2.1
theorem dX6_leaveLost_0 : decode cX6_leaveLost 0 = .ok (.aload_n 0, 1) := gd_X6_leaveName_4.2.2.2.2.2.2.2.1
theorem dX6_leaveLost_1 : decode cX6_leaveLost 1 = .ok (.getfield 22, 3) := gd_X6_leaveName_4.2.2.2.2.2.2.2.2.1
theorem dX6_leaveLost_4 : decode cX6_leaveLost 4 = .ok (.iconst 0, 1) := gd_X6_leaveName_4.2.2.2.2.2.2.2.2.2
theorem gd_X6_leaveLost_5 : decode cX6_leaveLost 5 = .ok (.dup2, 1) ∧ decode cX6_leaveLost 6 = .ok (.iaload, 1) ∧ decode cX6_leaveLost 7 = .ok (.iconst 1, 1) ∧ decode cX6_leaveLost 8 = .ok (.iadd, 1) ∧ decode cX6_leaveLost 9 = .ok (.iastore, 1) ∧ decode cX6_leaveLost 10 = .ok (.aload_n 0, 1) ∧ decode cX6_leaveLost 11 = .ok (.getfield 22, 3) ∧ decode cX6_leaveLost 14 = .ok (.iconst 3, 1) ∧ decode cX6_leaveLost 15 = .ok (.dup2, 1) ∧ decode cX6_leaveLost 16 = .ok (.iaload, 1) := by decide +kernel
theorem dX6_leaveLost_5 : decode cX6_leaveLost 5 = .ok (.dup2, 1) := gd_X6_leaveLost_5.1
theorem dX6_leaveLost_6 : decode cX6_leaveLost 6 = .ok (.iaload, 1) := gd_X6_leaveLost_5.2.1
theorem dX6_leaveLost_7 : decode cX6_leaveLost 7 = .ok (.iconst 1, 1) := gd_X6_leaveLost_5.2.2.1
theorem dX6_leaveLost_8 : decode cX6_leaveLost 8 = .ok (.iadd, 1) := gd_X6_leaveLost_5.2.2.2.1
theorem dX6_leaveLost_9 : decode cX6_leaveLost 9 = .ok (.iastore, 1) := gd_X6_leaveLost_5.2.2.2.2.1
theorem dX6_leaveLost_10 : decode cX6_leaveLost 10 = .ok (.aload_n 0, 1) := gd_X6_leaveLost_5.2.2.2.2.2.1
theorem dX6_leaveLost_11 : decode cX6_leaveLost 11 = .ok (.getfield 22, 3) := gd_X6_leaveLost_5.2.2.2.2.2.2.1
theorem dX6_leaveLost_14 : decode cX6_leaveLost 14 = .ok (.iconst 3, 1) := gd_X6_leaveLost_5.2.2.2.2.2.2.2.1
theorem dX6_leaveLost_15 : decode cX6_leaveLost 15 = .ok (.dup2, 1) := gd_X6_leaveLost_5.2.2.2.2.2.2.2.2.1
theorem dX6_leaveLost_16 : decode cX6_leaveLost 16 = .ok (.iaload, 1) := gd_X6_leaveLost_5.2.2.2.2.2.2.2.2.2
theorem gd_X6_leaveLost_17 : decode cX6_leaveLost 17 = .ok (.iconst 1, 1) ∧ decode cX6_leaveLost 18 = .ok (.iadd, 1) ∧ decode cX6_leaveLost 19 = .ok (.iastore, 1) ∧ decode cX6_leaveLost 20 = .ok (.return_, 1) ∧ decode cX6_put 0 = .ok (.aload_n 2, 1) ∧ decode cX6_put 1 = .ok (.getfield 48, 3) ∧ decode cX6_put 4 = .ok (.ifCond .ne 8, 3) ∧ decode cX6_put 7 = .ok (.aload_n 0, 1) ∧ decode cX6_put 8 = .ok (.invokevirtual 53, 3) ∧ decode cX6_put 11 = .ok (.return_, 1) := by decide +kernel
theorem dX6_leaveLost_17 : decode cX6_leaveLost 17 = .ok (.iconst 1, 1) := gd_X6_leaveLost_17.1
theorem dX6_leaveLost_18 : decode cX6_leaveLost 18 = .ok (.iadd, 1) := gd_X6_leaveLost_17.2.1
theorem dX6_leaveLost_19 : decode cX6_leaveLost 19 = .ok (.iastore, 1) := gd_X6_leaveLost_17.2.2.1
theorem dX6_leaveLost_20 : decode cX6_leaveLost 20 = .ok (.return_, 1) := gd_X6_leaveLost_17.2.2.2.1
theorem dX6_put_0 : decode cX6_put 0 = .ok (.aload_n 2, 1) := gd_X6_leaveLost_17.2.2.2.2.1
theorem dX6_put_1 : decode cX6_put 1 = .ok (.getfield 48, 3) := gd_X6_leaveLost_17.2.2.2.2.2.1
theorem dX6_put_4 : decode cX6_put 4 = .ok (.ifCond .ne 8, 3) := gd_X6_leaveLost_17.2.2.2.2.2.2.1
theorem dX6_put_7 : decode cX6_put 7 = .ok (.aload_n 0, 1) := gd_X6_leaveLost_17.2.2.2.2.2.2.2.1
theorem dX6_put_8 : decode cX6_put 8 = .ok (.invokevirtual 53, 3) := gd_X6_leaveLost_17.2.2.2.2.2.2.2.2.1
theorem dX6_put_11 : decode cX6_put 11 = .ok (.return_, 1) := gd_X6_leaveLost_17.2.2.2.2.2.2.2.2.2
theorem gd_X6_put_12 : decode cX6_put 12 = .ok (.aload_n 0, 1) ∧ decode cX6_put 13 = .ok (.getfield 22, 3) ∧ decode cX6_put 16 = .ok (.iconst 0, 1) ∧ decode cX6_put 17 = .ok (.dup2, 1) ∧ decode cX6_put 18 = .ok (.iaload, 1) ∧ decode cX6_put 19 = .ok (.iconst 1, 1) ∧ decode cX6_put 20 = .ok (.iadd, 1) ∧ decode cX6_put 21 = .ok (.iastore, 1) ∧ decode cX6_put 22 = .ok (.aload_n 2, 1) ∧ decode cX6_put 23 = .ok (.getfield 48, 3) := by decide +kernel
theorem dX6_put_12 : decode cX6_put 12 = .ok (.aload_n 0, 1) := gd_X6_put_12.1
theorem dX6_put_13 : decode cX6_put 13 = .ok (.getfield 22, 3) := gd_X6_put_12.2.1
theorem dX6_put_16 : decode cX6_put 16 = .ok (.iconst 0, 1) := gd_X6_put_12.2.2.1
theorem dX6_put_17 : decode cX6_put 17 = .ok (.dup2, 1) := gd_X6_put_12.2.2.2.1
theorem dX6_put_18 : decode cX6_put 18 = .ok (.iaload, 1) := gd_X6_put_12.2.2.2.2.1
theorem dX6_put_19 : decode cX6_put 19 = .ok (.iconst 1, 1) := gd_X6_put_12.2.2.2.2.2.1
theorem dX6_put_20 : decode cX6_put 20 = .ok (.iadd, 1) := gd_X6_put_12.2.2.2.2.2.2.1
theorem dX6_put_21 : decode cX6_put 21 = .ok (.iastore, 1) := gd_X6_put_12.2.2.2.2.2.2.2.1
theorem dX6_put_22 : decode cX6_put 22 = .ok (.aload_n 2, 1) := gd_X6_put_12.2.2.2.2.2.2.2.2.1
theorem dX6_put_23 : decode cX6_put 23 = .ok (.getfield 48, 3) := gd_X6_put_12.2.2.2.2.2.2.2.2.2
theorem gd_X6_put_26 : decode cX6_put 26 = .ok (.iconst 1, 1) ∧ decode cX6_put 27 = .ok (.if_icmp .le 13, 3) ∧ decode cX6_put 30 = .ok (.aload_n 0, 1) ∧ decode cX6_put 31 = .ok (.getfield 22, 3) ∧ decode cX6_put 34 = .ok (.iconst 2, 1) ∧ decode cX6_put 35 = .ok (.dup2, 1) ∧ decode cX6_put 36 = .ok (.iaload, 1) ∧ decode cX6_put 37 = .ok (.iconst 1, 1) ∧ decode cX6_put 38 = .ok (.iadd, 1) ∧ decode cX6_put 39 = .ok (.iastore, 1) := by decide +kernel
theorem dX6_put_26 : decode cX6_put 26 = .ok (.iconst 1, 1) := gd_X6_put_26.1
theorem dX6_put_27 : decode cX6_put 27 = .ok (.if_icmp .le 13, 3) := gd_X6_put_26.2.1
theorem dX6_put_30 : decode cX6_put 30 = .ok (.aload_n 0, 1) := gd_X6_put_26.2.2.1
theorem dX6_put_31 : decode cX6_put 31 = .ok (.getfield 22, 3) := gd_X6_put_26.2.2.2.1
theorem dX6_put_34 : decode cX6_put 34 = .ok (.iconst 2, 1) := gd_X6_put_26.2.2.2.2.1
theorem dX6_put_35 : decode cX6_put 35 = .ok (.dup2, 1) := gd_X6_put_26.2.2.2.2.2.1
theorem dX6_put_36 : decode cX6_put 36 = .ok (.iaload, 1) := gd_X6_put_26.2.2.2.2.2.2.1
theorem dX6_put_37 : decode cX6_put 37 = .ok (.iconst 1, 1) := gd_X6_put_26.2.2.2.2.2.2.2.1
theorem dX6_put_38 : decode cX6_put 38 = .ok (.iadd, 1) := gd_X6_put_26.2.2.2.2.2.2.2.2.1
theorem dX6_put_39 : decode cX6_put 39 = .ok (.iastore, 1) := gd_X6_put_26.2.2.2.2.2.2.2.2.2
theorem gd_X6_put_40 : decode cX6_put 40 = .ok (.aload_n 2, 1) ∧ decode cX6_put 41 = .ok (.getfield 56, 3) ∧ decode cX6_put 44 = .ok (.iconst 0, 1) ∧ decode cX6_put 45 = .ok (.iaload, 1) ∧ decode cX6_put 46 = .ok (.aload_n 1, 1) ∧ decode cX6_put 47 = .ok (.getfield 59, 3) ∧ decode cX6_put 50 = .ok (.if_icmp .ne 20, 3) ∧ decode cX6_put 53 = .ok (.aload_n 2, 1) ∧ decode cX6_put 54 = .ok (.iconst 0, 1) ∧ decode cX6_put 55 = .ok (.aload_n 1, 1) := by decide +kernel
theorem dX6_put_40 : decode cX6_put 40 = .ok (.aload_n 2, 1) := gd_X6_put_40.1
theorem dX6_put_41 : decode cX6_put 41 = .ok (.getfield 56, 3) := gd_X6_put_40.2.1
theorem dX6_put_44 : decode cX6_put 44 = .ok (.iconst 0, 1) := gd_X6_put_40.2.2.1
theorem dX6_put_45 : decode cX6_put 45 = .ok (.iaload, 1) := gd_X6_put_40.2.2.2.1
theorem dX6_put_46 : decode cX6_put 46 = .ok (.aload_n 1, 1) := gd_X6_put_40.2.2.2.2.1
theorem dX6_put_47 : decode cX6_put 47 = .ok (.getfield 59, 3) := gd_X6_put_40.2.2.2.2.2.1
theorem dX6_put_50 : decode cX6_put 50 = .ok (.if_icmp .ne 20, 3) := gd_X6_put_40.2.2.2.2.2.2.1
theorem dX6_put_53 : decode cX6_put 53 = .ok (.aload_n 2, 1) := gd_X6_put_40.2.2.2.2.2.2.2.1
theorem dX6_put_54 : decode cX6_put 54 = .ok (.iconst 0, 1) := gd_X6_put_40.2.2.2.2.2.2.2.2.1
theorem dX6_put_55 : decode cX6_put 55 = .ok (.aload_n 1, 1) := gd_X6_put_40.2.2.2.2.2.2.2.2.2
theorem gd_X6_put_56 : decode cX6_put 56 = .ok (.getfield 64, 3) ∧ decode cX6_put 59 = .ok (.aload_n 1, 1) ∧ decode cX6_put 60 = .ok (.getfield 67, 3) ∧ decode cX6_put 63 = .ok (.invokevirtual 70, 3) ∧ decode cX6_put 66 = .ok (.ifCond .eq 4, 3) ∧ decode cX6_put 69 = .ok (.return_, 1) ∧ decode cX6_put 70 = .ok (.aload_n 0, 1) ∧ decode cX6_put 71 = .ok (.getfield 22, 3) ∧ decode cX6_put 74 = .ok (.iconst 1, 1) ∧ decode cX6_put 75 = .ok (.dup2, 1) := by decide +kernel
theorem dX6_put_56 : decode cX6_put 56 = .ok (.getfield 64, 3) := gd_X6_put_56.1
theorem dX6_put_59 : decode cX6_put 59 = .ok (.aload_n 1, 1) := gd_X6_put_56.2.1
theorem dX6_put_60 : decode cX6_put 60 = .ok (.getfield 67, 3) := gd_X6_put_56.2.2.1
theorem dX6_put_63 : decode cX6_put 63 = .ok (.invokevirtual 70, 3) := gd_X6_put_56.2.2.2.1
theorem dX6_put_66 : decode cX6_put 66 = .ok (.ifCond .eq 4, 3) := gd_X6_put_56.2.2.2.2.1
theorem dX6_put_69 : decode cX6_put 69 = .ok (.return_, 1) := gd_X6_put_56.2.2.2.2.2.1
theorem dX6_put_70 : decode cX6_put 70 = .ok (.aload_n 0, 1) := gd_X6_put_56.2.2.2.2.2.2.1
theorem dX6_put_71 : decode cX6_put 71 = .ok (.getfield 22, 3) := gd_X6_put_56.2.2.2.2.2.2.2.1
theorem dX6_put_74 : decode cX6_put 74 = .ok (.iconst 1, 1) := gd_X6_put_56.2.2.2.2.2.2.2.2.1
theorem dX6_put_75 : decode cX6_put 75 = .ok (.dup2, 1) := gd_X6_put_56.2.2.2.2.2.2.2.2.2
theorem gd_X6_put_76 : decode cX6_put 76 = .ok (.iaload, 1) ∧ decode cX6_put 77 = .ok (.iconst 1, 1) ∧ decode cX6_put 78 = .ok (.iadd, 1) ∧ decode cX6_put 79 = .ok (.iastore, 1) ∧ decode cX6_put 80 = .ok (.aload_n 0, 1) ∧ decode cX6_put 81 = .ok (.aload_n 1, 1) ∧ decode cX6_put 82 = .ok (.getfield 64, 3) ∧ decode cX6_put 85 = .ok (.aload_n 0, 1) ∧ decode cX6_put 86 = .ok (.getfield 36, 3) ∧ decode cX6_put 89 = .ok (.aload_n 1, 1) := by decide +kernel
theorem dX6_put_76 : decode cX6_put 76 = .ok (.iaload, 1) := gd_X6_put_76.1
theorem dX6_put_77 : decode cX6_put 77 = .ok (.iconst 1, 1) := gd_X6_put_76.2.1
theorem dX6_put_78 : decode cX6_put 78 = .ok (.iadd, 1) := gd_X6_put_76.2.2.1
theorem dX6_put_79 : decode cX6_put 79 = .ok (.iastore, 1) := gd_X6_put_76.2.2.2.1
theorem dX6_put_80 : decode cX6_put 80 = .ok (.aload_n 0, 1) := gd_X6_put_76.2.2.2.2.1
theorem dX6_put_81 : decode cX6_put 81 = .ok (.aload_n 1, 1) := gd_X6_put_76.2.2.2.2.2.1
theorem dX6_put_82 : decode cX6_put 82 = .ok (.getfield 64, 3) := gd_X6_put_76.2.2.2.2.2.2.1
theorem dX6_put_85 : decode cX6_put 85 = .ok (.aload_n 0, 1) := gd_X6_put_76.2.2.2.2.2.2.2.1
theorem dX6_put_86 : decode cX6_put 86 = .ok (.getfield 36, 3) := gd_X6_put_76.2.2.2.2.2.2.2.2.1
theorem dX6_put_89 : decode cX6_put 89 = .ok (.aload_n 1, 1) := gd_X6_put_76.2.2.2.2.2.2.2.2.2
theorem gd_X6_put_90 : decode cX6_put 90 = .ok (.getfield 67, 3) ∧ decode cX6_put 93 = .ok (.aload_n 0, 1) ∧ decode cX6_put 94 = .ok (.getfield 36, 3) ∧ decode cX6_put 97 = .ok (.isub, 1) ∧ decode cX6_put 98 = .ok (.invokevirtual 74, 3) ∧ decode cX6_put 101 = .ok (.aload_n 0, 1) ∧ decode cX6_put 102 = .ok (.aload_n 2, 1) ∧ decode cX6_put 103 = .ok (.getfield 78, 3) ∧ decode cX6_put 106 = .ok (.iconst 0, 1) ∧ decode cX6_put 107 = .ok (.aload_n 2, 1) := by decide +kernel
theorem dX6_put_90 : decode cX6_put 90 = .ok (.getfield 67, 3) := gd_X6_put_90.1
theorem dX6_put_93 : decode cX6_put 93 = .ok (.aload_n 0, 1) := gd_X6_put_90.2.1
theorem dX6_put_94 : decode cX6_put 94 = .ok (.getfield 36, 3) := gd_X6_put_90.2.2.1
theorem dX6_put_97 : decode cX6_put 97 = .ok (.isub, 1) := gd_X6_put_90.2.2.2.1
theorem dX6_put_98 : decode cX6_put 98 = .ok (.invokevirtual 74, 3) := gd_X6_put_90.2.2.2.2.1
theorem dX6_put_101 : decode cX6_put 101 = .ok (.aload_n 0, 1) := gd_X6_put_90.2.2.2.2.2.1
theorem dX6_put_102 : decode cX6_put 102 = .ok (.aload_n 2, 1) := gd_X6_put_90.2.2.2.2.2.2.1
theorem dX6_put_103 : decode cX6_put 103 = .ok (.getfield 78, 3) := gd_X6_put_90.2.2.2.2.2.2.2.1
theorem dX6_put_106 : decode cX6_put 106 = .ok (.iconst 0, 1) := gd_X6_put_90.2.2.2.2.2.2.2.2.1
theorem dX6_put_107 : decode cX6_put 107 = .ok (.aload_n 2, 1) := gd_X6_put_90.2.2.2.2.2.2.2.2.2
theorem gd_X6_put_108 : decode cX6_put 108 = .ok (.getfield 56, 3) ∧ decode cX6_put 111 = .ok (.iconst 0, 1) ∧ decode cX6_put 112 = .ok (.iaload, 1) ∧ decode cX6_put 113 = .ok (.invokevirtual 74, 3) ∧ decode cX6_put 116 = .ok (.aload_n 0, 1) ∧ decode cX6_put 117 = .ok (.aload_n 1, 1) ∧ decode cX6_put 118 = .ok (.getfield 67, 3) ∧ decode cX6_put 121 = .ok (.aload_n 1, 1) ∧ decode cX6_put 122 = .ok (.getfield 59, 3) ∧ decode cX6_put 125 = .ok (.iadd, 1) := by decide +kernel
theorem dX6_put_108 : decode cX6_put 108 = .ok (.getfield 56, 3) := gd_X6_put_108.1
theorem dX6_put_111 : decode cX6_put 111 = .ok (.iconst 0, 1) := gd_X6_put_108.2.1
theorem dX6_put_112 : decode cX6_put 112 = .ok (.iaload, 1) := gd_X6_put_108.2.2.1
theorem dX6_put_113 : decode cX6_put 113 = .ok (.invokevirtual 74, 3) := gd_X6_put_108.2.2.2.1
theorem dX6_put_116 : decode cX6_put 116 = .ok (.aload_n 0, 1) := gd_X6_put_108.2.2.2.2.1
theorem dX6_put_117 : decode cX6_put 117 = .ok (.aload_n 1, 1) := gd_X6_put_108.2.2.2.2.2.1
theorem dX6_put_118 : decode cX6_put 118 = .ok (.getfield 67, 3) := gd_X6_put_108.2.2.2.2.2.2.1
theorem dX6_put_121 : decode cX6_put 121 = .ok (.aload_n 1, 1) := gd_X6_put_108.2.2.2.2.2.2.2.1
theorem dX6_put_122 : decode cX6_put 122 = .ok (.getfield 59, 3) := gd_X6_put_108.2.2.2.2.2.2.2.2.1
theorem dX6_put_125 : decode cX6_put 125 = .ok (.iadd, 1) := gd_X6_put_108.2.2.2.2.2.2.2.2.2
theorem gd_X6_put_126 : decode cX6_put 126 = .ok (.putfield 36, 3) ∧ decode cX6_put 129 = .ok (.return_, 1) ∧ decode cX6_finish 22 = .ok (.iconst (-1), 1) ∧ decode cX6_finish 23 = .ok (.ireturn, 1) ∧ decode cX6_append 19 = .ok (.aload_n 0, 1) ∧ decode cX6_append 20 = .ok (.iconst 0, 1) ∧ decode cX6_append 21 = .ok (.putfield 39, 3) ∧ decode cX6_append 24 = .ok (.return_, 1) ∧ decode cX8_next 0 = .ok (.aload_n 0, 1) ∧ decode cX8_next 1 = .ok (.getfield 32, 3) := by decide +kernel
theorem dX6_put_126 : decode cX6_put 126 = .ok (.putfield 36, 3) := gd_X6_put_126.1
theorem dX6_put_129 : decode cX6_put 129 = .ok (.return_, 1) := gd_X6_put_126.2.1
theorem dX6_finish_22 : decode cX6_finish 22 = .ok (.iconst (-1), 1) := gd_X6_put_126.2.2.1
theorem dX6_finish_23 : decode cX6_finish 23 = .ok (.ireturn, 1) := gd_X6_put_126.2.2.2.1
theorem dX6_append_19 : decode cX6_append 19 = .ok (.aload_n 0, 1) := gd_X6_put_126.2.2.2.2.1
theorem dX6_append_20 : decode cX6_append 20 = .ok (.iconst 0, 1) := gd_X6_put_126.2.2.2.2.2.1
theorem dX6_append_21 : decode cX6_append 21 = .ok (.putfield 39, 3) := gd_X6_put_126.2.2.2.2.2.2.1
theorem dX6_append_24 : decode cX6_append 24 = .ok (.return_, 1) := gd_X6_put_126.2.2.2.2.2.2.2.1
theorem dX8_next_0 : decode cX8_next 0 = .ok (.aload_n 0, 1) := gd_X6_put_126.2.2.2.2.2.2.2.2.1
theorem dX8_next_1 : decode cX8_next 1 = .ok (.getfield 32, 3) := gd_X6_put_126.2.2.2.2.2.2.2.2.2
theorem gd_X8_next_4 : decode cX8_next 4 = .ok (.aload_n 0, 1) ∧ decode cX8_next 5 = .ok (.getfield 29, 3) ∧ decode cX8_next 8 = .ok (.if_icmp .ge 90, 3) ∧ decode cX8_next 11 = .ok (.aload_n 0, 1) ∧ decode cX8_next 12 = .ok (.getfield 25, 3) ∧ decode cX8_next 15 = .ok (.aload_n 0, 1) ∧ decode cX8_next 16 = .ok (.getfield 32, 3) ∧ decode cX8_next 19 = .ok (.baload, 1) ∧ decode cX8_next 20 = .ok (.istore_n 1, 1) ∧ decode cX8_next 21 = .ok (.iload_n 1, 1) := by decide +kernel
theorem dX8_next_4 : decode cX8_next 4 = .ok (.aload_n 0, 1) := gd_X8_next_4.1
theorem dX8_next_5 : decode cX8_next 5 = .ok (.getfield 29, 3) := gd_X8_next_4.2.1
theorem dX8_next_8 : decode cX8_next 8 = .ok (.if_icmp .ge 90, 3) := gd_X8_next_4.2.2.1
theorem dX8_next_11 : decode cX8_next 11 = .ok (.aload_n 0, 1) := gd_X8_next_4.2.2.2.1
theorem dX8_next_12 : decode cX8_next 12 = .ok (.getfield 25, 3) := gd_X8_next_4.2.2.2.2.1
theorem dX8_next_15 : decode cX8_next 15 = .ok (.aload_n 0, 1) := gd_X8_next_4.2.2.2.2.2.1
theorem dX8_next_16 : decode cX8_next 16 = .ok (.getfield 32, 3) := gd_X8_next_4.2.2.2.2.2.2.1
theorem dX8_next_19 : decode cX8_next 19 = .ok (.baload, 1) := gd_X8_next_4.2.2.2.2.2.2.2.1
theorem dX8_next_20 : decode cX8_next 20 = .ok (.istore_n 1, 1) := gd_X8_next_4.2.2.2.2.2.2.2.2.1
theorem dX8_next_21 : decode cX8_next 21 = .ok (.iload_n 1, 1) := gd_X8_next_4.2.2.2.2.2.2.2.2.2
theorem gd_X8_next_22 : decode cX8_next 22 = .ok (.bipush 10, 2) ∧ decode cX8_next 24 = .ok (.if_icmp .ne 16, 3) ∧ decode cX8_next 27 = .ok (.aload_n 0, 1) ∧ decode cX8_next 28 = .ok (.dup, 1) ∧ decode cX8_next 29 = .ok (.getfield 18, 3) ∧ decode cX8_next 32 = .ok (.iconst 1, 1) ∧ decode cX8_next 33 = .ok (.iadd, 1) ∧ decode cX8_next 34 = .ok (.putfield 18, 3) ∧ decode cX8_next 37 = .ok (.goto 48, 3) ∧ decode cX8_next 40 = .ok (.iload_n 1, 1) := by decide +kernel
theorem dX8_next_22 : decode cX8_next 22 = .ok (.bipush 10, 2) := gd_X8_next_22.1
theorem dX8_next_24 : decode cX8_next 24 = .ok (.if_icmp .ne 16, 3) := gd_X8_next_22.2.1
theorem dX8_next_27 : decode cX8_next 27 = .ok (.aload_n 0, 1) := gd_X8_next_22.2.2.1
theorem dX8_next_28 : decode cX8_next 28 = .ok (.dup, 1) := gd_X8_next_22.2.2.2.1
theorem dX8_next_29 : decode cX8_next 29 = .ok (.getfield 18, 3) := gd_X8_next_22.2.2.2.2.1
theorem dX8_next_32 : decode cX8_next 32 = .ok (.iconst 1, 1) := gd_X8_next_22.2.2.2.2.2.1
theorem dX8_next_33 : decode cX8_next 33 = .ok (.iadd, 1) := gd_X8_next_22.2.2.2.2.2.2.1
theorem dX8_next_34 : decode cX8_next 34 = .ok (.putfield 18, 3) := gd_X8_next_22.2.2.2.2.2.2.2.1
theorem dX8_next_37 : decode cX8_next 37 = .ok (.goto 48, 3) := gd_X8_next_22.2.2.2.2.2.2.2.2.1
theorem dX8_next_40 : decode cX8_next 40 = .ok (.iload_n 1, 1) := gd_X8_next_22.2.2.2.2.2.2.2.2.2
theorem gd_X8_next_41 : decode cX8_next 41 = .ok (.bipush 34, 2) ∧ decode cX8_next 43 = .ok (.if_icmp .ne 22, 3) ∧ decode cX8_next 46 = .ok (.aload_n 0, 1) ∧ decode cX8_next 47 = .ok (.aload_n 0, 1) ∧ decode cX8_next 48 = .ok (.getfield 35, 3) ∧ decode cX8_next 51 = .ok (.ifCond .ne 7, 3) ∧ decode cX8_next 54 = .ok (.iconst 1, 1) ∧ decode cX8_next 55 = .ok (.goto 4, 3) ∧ decode cX8_next 58 = .ok (.iconst 0, 1) ∧ decode cX8_next 59 = .ok (.putfield 35, 3) := by decide +kernel
theorem dX8_next_41 : decode cX8_next 41 = .ok (.bipush 34, 2) := gd_X8_next_41.1
theorem dX8_next_43 : decode cX8_next 43 = .ok (.if_icmp .ne 22, 3) := gd_X8_next_41.2.1
theorem dX8_next_46 : decode cX8_next 46 = .ok (.aload_n 0, 1) := gd_X8_next_41.2.2.1
theorem dX8_next_47 : decode cX8_next 47 = .ok (.aload_n 0, 1) := gd_X8_next_41.2.2.2.1
theorem dX8_next_48 : decode cX8_next 48 = .ok (.getfield 35, 3) := gd_X8_next_41.2.2.2.2.1
theorem dX8_next_51 : decode cX8_next 51 = .ok (.ifCond .ne 7, 3) := gd_X8_next_41.2.2.2.2.2.1
theorem dX8_next_54 : decode cX8_next 54 = .ok (.iconst 1, 1) := gd_X8_next_41.2.2.2.2.2.2.1
theorem dX8_next_55 : decode cX8_next 55 = .ok (.goto 4, 3) := gd_X8_next_41.2.2.2.2.2.2.2.1
theorem dX8_next_58 : decode cX8_next 58 = .ok (.iconst 0, 1) := gd_X8_next_41.2.2.2.2.2.2.2.2.1
theorem dX8_next_59 : decode cX8_next 59 = .ok (.putfield 35, 3) := gd_X8_next_41.2.2.2.2.2.2.2.2.2
theorem gd_X8_next_62 : decode cX8_next 62 = .ok (.goto 23, 3) ∧ decode cX8_next 65 = .ok (.aload_n 0, 1) ∧ decode cX8_next 66 = .ok (.getfield 35, 3) ∧ decode cX8_next 69 = .ok (.ifCond .ne 16, 3) ∧ decode cX8_next 72 = .ok (.iload_n 1, 1) ∧ decode cX8_next 73 = .ok (.invokestatic 44, 3) ∧ decode cX8_next 76 = .ok (.ifCond .eq 9, 3) ∧ decode cX8_next 79 = .ok (.aload_n 0, 1) ∧ decode cX8_next 80 = .ok (.invokevirtual 48, 3) ∧ decode cX8_next 83 = .ok (.iconst 1, 1) := by decide +kernel
theorem dX8_next_62 : decode cX8_next 62 = .ok (.goto 23, 3) := gd_X8_next_62.1
theorem dX8_next_65 : decode cX8_next 65 = .ok (.aload_n 0, 1) := gd_X8_next_62.2.1
theorem dX8_next_66 : decode cX8_next 66 = .ok (.getfield 35, 3) := gd_X8_next_62.2.2.1
theorem dX8_next_69 : decode cX8_next 69 = .ok (.ifCond .ne 16, 3) := gd_X8_next_62.2.2.2.1
theorem dX8_next_72 : decode cX8_next 72 = .ok (.iload_n 1, 1) := gd_X8_next_62.2.2.2.2.1
theorem dX8_next_73 : decode cX8_next 73 = .ok (.invokestatic 44, 3) := gd_X8_next_62.2.2.2.2.2.1
theorem dX8_next_76 : decode cX8_next 76 = .ok (.ifCond .eq 9, 3) := gd_X8_next_62.2.2.2.2.2.2.1
theorem dX8_next_79 : decode cX8_next 79 = .ok (.aload_n 0, 1) := gd_X8_next_62.2.2.2.2.2.2.2.1
theorem dX8_next_80 : decode cX8_next 80 = .ok (.invokevirtual 48, 3) := gd_X8_next_62.2.2.2.2.2.2.2.2.1
theorem dX8_next_83 : decode cX8_next 83 = .ok (.iconst 1, 1) := gd_X8_next_62.2.2.2.2.2.2.2.2.2
theorem gd_X8_next_84 : decode cX8_next 84 = .ok (.ireturn, 1) ∧ decode cX8_next 85 = .ok (.aload_n 0, 1) ∧ decode cX8_next 86 = .ok (.dup, 1) ∧ decode cX8_next 87 = .ok (.getfield 32, 3) ∧ decode cX8_next 90 = .ok (.iconst 1, 1) ∧ decode cX8_next 91 = .ok (.iadd, 1) ∧ decode cX8_next 92 = .ok (.putfield 32, 3) ∧ decode cX8_next 95 = .ok (.goto (-95), 3) ∧ decode cX8_next 98 = .ok (.iconst 0, 1) ∧ decode cX8_next 99 = .ok (.ireturn, 1) := by decide +kernel
theorem dX8_next_84 : decode cX8_next 84 = .ok (.ireturn, 1) := gd_X8_next_84.1
theorem dX8_next_85 : decode cX8_next 85 = .ok (.aload_n 0, 1) := gd_X8_next_84.2.1
theorem dX8_next_86 : decode cX8_next 86 = .ok (.dup, 1) := gd_X8_next_84.2.2.1
theorem dX8_next_87 : decode cX8_next 87 = .ok (.getfield 32, 3) := gd_X8_next_84.2.2.2.1
theorem dX8_next_90 : decode cX8_next 90 = .ok (.iconst 1, 1) := gd_X8_next_84.2.2.2.2.1
theorem dX8_next_91 : decode cX8_next 91 = .ok (.iadd, 1) := gd_X8_next_84.2.2.2.2.2.1
theorem dX8_next_92 : decode cX8_next 92 = .ok (.putfield 32, 3) := gd_X8_next_84.2.2.2.2.2.2.1
theorem dX8_next_95 : decode cX8_next 95 = .ok (.goto (-95), 3) := gd_X8_next_84.2.2.2.2.2.2.2.1
theorem dX8_next_98 : decode cX8_next 98 = .ok (.iconst 0, 1) := gd_X8_next_84.2.2.2.2.2.2.2.2.1
theorem dX8_next_99 : decode cX8_next 99 = .ok (.ireturn, 1) := gd_X8_next_84.2.2.2.2.2.2.2.2.2
theorem gd_X8_takeWord_0 : decode cX8_takeWord 0 = .ok (.aload_n 0, 1) ∧ decode cX8_takeWord 1 = .ok (.aload_n 0, 1) ∧ decode cX8_takeWord 2 = .ok (.getfield 32, 3) ∧ decode cX8_takeWord 5 = .ok (.putfield 9, 3) ∧ decode cX8_takeWord 8 = .ok (.aload_n 0, 1) ∧ decode cX8_takeWord 9 = .ok (.iconst 0, 1) ∧ decode cX8_takeWord 10 = .ok (.putfield 21, 3) ∧ decode cX8_takeWord 13 = .ok (.aload_n 0, 1) ∧ decode cX8_takeWord 14 = .ok (.getfield 32, 3) ∧ decode cX8_takeWord 17 = .ok (.aload_n 0, 1) := by decide +kernel
theorem dX8_takeWord_0 : decode cX8_takeWord 0 = .ok (.aload_n 0, 1) := gd_X8_takeWord_0.1
theorem dX8_takeWord_1 : decode cX8_takeWord 1 = .ok (.aload_n 0, 1) := gd_X8_takeWord_0.2.1
theorem dX8_takeWord_2 : decode cX8_takeWord 2 = .ok (.getfield 32, 3) := gd_X8_takeWord_0.2.2.1
theorem dX8_takeWord_5 : decode cX8_takeWord 5 = .ok (.putfield 9, 3) := gd_X8_takeWord_0.2.2.2.1
theorem dX8_takeWord_8 : decode cX8_takeWord 8 = .ok (.aload_n 0, 1) := gd_X8_takeWord_0.2.2.2.2.1
theorem dX8_takeWord_9 : decode cX8_takeWord 9 = .ok (.iconst 0, 1) := gd_X8_takeWord_0.2.2.2.2.2.1
theorem dX8_takeWord_10 : decode cX8_takeWord 10 = .ok (.putfield 21, 3) := gd_X8_takeWord_0.2.2.2.2.2.2.1
theorem dX8_takeWord_13 : decode cX8_takeWord 13 = .ok (.aload_n 0, 1) := gd_X8_takeWord_0.2.2.2.2.2.2.2.1
theorem dX8_takeWord_14 : decode cX8_takeWord 14 = .ok (.getfield 32, 3) := gd_X8_takeWord_0.2.2.2.2.2.2.2.2.1
theorem dX8_takeWord_17 : decode cX8_takeWord 17 = .ok (.aload_n 0, 1) := gd_X8_takeWord_0.2.2.2.2.2.2.2.2.2
theorem gd_X8_takeWord_18 : decode cX8_takeWord 18 = .ok (.getfield 29, 3) ∧ decode cX8_takeWord 21 = .ok (.if_icmp .ge 62, 3) ∧ decode cX8_takeWord 24 = .ok (.aload_n 0, 1) ∧ decode cX8_takeWord 25 = .ok (.getfield 25, 3) ∧ decode cX8_takeWord 28 = .ok (.aload_n 0, 1) ∧ decode cX8_takeWord 29 = .ok (.getfield 32, 3) ∧ decode cX8_takeWord 32 = .ok (.baload, 1) ∧ decode cX8_takeWord 33 = .ok (.invokestatic 44, 3) ∧ decode cX8_takeWord 36 = .ok (.ifCond .eq 47, 3) ∧ decode cX8_takeWord 39 = .ok (.aload_n 0, 1) := by decide +kernel
theorem dX8_takeWord_18 : decode cX8_takeWord 18 = .ok (.getfield 29, 3) := gd_X8_takeWord_18.1
theorem dX8_takeWord_21 : decode cX8_takeWord 21 = .ok (.if_icmp .ge 62, 3) := gd_X8_takeWord_18.2.1
theorem dX8_takeWord_24 : decode cX8_takeWord 24 = .ok (.aload_n 0, 1) := gd_X8_takeWord_18.2.2.1
theorem dX8_takeWord_25 : decode cX8_takeWord 25 = .ok (.getfield 25, 3) := gd_X8_takeWord_18.2.2.2.1
theorem dX8_takeWord_28 : decode cX8_takeWord 28 = .ok (.aload_n 0, 1) := gd_X8_takeWord_18.2.2.2.2.1
theorem dX8_takeWord_29 : decode cX8_takeWord 29 = .ok (.getfield 32, 3) := gd_X8_takeWord_18.2.2.2.2.2.1
theorem dX8_takeWord_32 : decode cX8_takeWord 32 = .ok (.baload, 1) := gd_X8_takeWord_18.2.2.2.2.2.2.1
theorem dX8_takeWord_33 : decode cX8_takeWord 33 = .ok (.invokestatic 44, 3) := gd_X8_takeWord_18.2.2.2.2.2.2.2.1
theorem dX8_takeWord_36 : decode cX8_takeWord 36 = .ok (.ifCond .eq 47, 3) := gd_X8_takeWord_18.2.2.2.2.2.2.2.2.1
theorem dX8_takeWord_39 : decode cX8_takeWord 39 = .ok (.aload_n 0, 1) := gd_X8_takeWord_18.2.2.2.2.2.2.2.2.2
theorem gd_X8_takeWord_40 : decode cX8_takeWord 40 = .ok (.aload_n 0, 1) ∧ decode cX8_takeWord 41 = .ok (.getfield 21, 3) ∧ decode cX8_takeWord 44 = .ok (.ifCond .ne 18, 3) ∧ decode cX8_takeWord 47 = .ok (.aload_n 0, 1) ∧ decode cX8_takeWord 48 = .ok (.getfield 25, 3) ∧ decode cX8_takeWord 51 = .ok (.aload_n 0, 1) ∧ decode cX8_takeWord 52 = .ok (.getfield 32, 3) ∧ decode cX8_takeWord 55 = .ok (.baload, 1) ∧ decode cX8_takeWord 56 = .ok (.invokestatic 51, 3) ∧ decode cX8_takeWord 59 = .ok (.ifCond .eq 7, 3) := by decide +kernel
theorem dX8_takeWord_40 : decode cX8_takeWord 40 = .ok (.aload_n 0, 1) := gd_X8_takeWord_40.1
theorem dX8_takeWord_41 : decode cX8_takeWord 41 = .ok (.getfield 21, 3) := gd_X8_takeWord_40.2.1
theorem dX8_takeWord_44 : decode cX8_takeWord 44 = .ok (.ifCond .ne 18, 3) := gd_X8_takeWord_40.2.2.1
theorem dX8_takeWord_47 : decode cX8_takeWord 47 = .ok (.aload_n 0, 1) := gd_X8_takeWord_40.2.2.2.1
theorem dX8_takeWord_48 : decode cX8_takeWord 48 = .ok (.getfield 25, 3) := gd_X8_takeWord_40.2.2.2.2.1
theorem dX8_takeWord_51 : decode cX8_takeWord 51 = .ok (.aload_n 0, 1) := gd_X8_takeWord_40.2.2.2.2.2.1
theorem dX8_takeWord_52 : decode cX8_takeWord 52 = .ok (.getfield 32, 3) := gd_X8_takeWord_40.2.2.2.2.2.2.1
theorem dX8_takeWord_55 : decode cX8_takeWord 55 = .ok (.baload, 1) := gd_X8_takeWord_40.2.2.2.2.2.2.2.1
theorem dX8_takeWord_56 : decode cX8_takeWord 56 = .ok (.invokestatic 51, 3) := gd_X8_takeWord_40.2.2.2.2.2.2.2.2.1
theorem dX8_takeWord_59 : decode cX8_takeWord 59 = .ok (.ifCond .eq 7, 3) := gd_X8_takeWord_40.2.2.2.2.2.2.2.2.2
theorem gd_X8_takeWord_62 : decode cX8_takeWord 62 = .ok (.iconst 1, 1) ∧ decode cX8_takeWord 63 = .ok (.goto 4, 3) ∧ decode cX8_takeWord 66 = .ok (.iconst 0, 1) ∧ decode cX8_takeWord 67 = .ok (.putfield 21, 3) ∧ decode cX8_takeWord 70 = .ok (.aload_n 0, 1) ∧ decode cX8_takeWord 71 = .ok (.dup, 1) ∧ decode cX8_takeWord 72 = .ok (.getfield 32, 3) ∧ decode cX8_takeWord 75 = .ok (.iconst 1, 1) ∧ decode cX8_takeWord 76 = .ok (.iadd, 1) ∧ decode cX8_takeWord 77 = .ok (.putfield 32, 3) := by decide +kernel
theorem dX8_takeWord_62 : decode cX8_takeWord 62 = .ok (.iconst 1, 1) := gd_X8_takeWord_62.1
theorem dX8_takeWord_63 : decode cX8_takeWord 63 = .ok (.goto 4, 3) := gd_X8_takeWord_62.2.1
theorem dX8_takeWord_66 : decode cX8_takeWord 66 = .ok (.iconst 0, 1) := gd_X8_takeWord_62.2.2.1
theorem dX8_takeWord_67 : decode cX8_takeWord 67 = .ok (.putfield 21, 3) := gd_X8_takeWord_62.2.2.2.1
theorem dX8_takeWord_70 : decode cX8_takeWord 70 = .ok (.aload_n 0, 1) := gd_X8_takeWord_62.2.2.2.2.1
theorem dX8_takeWord_71 : decode cX8_takeWord 71 = .ok (.dup, 1) := gd_X8_takeWord_62.2.2.2.2.2.1
theorem dX8_takeWord_72 : decode cX8_takeWord 72 = .ok (.getfield 32, 3) := gd_X8_takeWord_62.2.2.2.2.2.2.1
theorem dX8_takeWord_75 : decode cX8_takeWord 75 = .ok (.iconst 1, 1) := gd_X8_takeWord_62.2.2.2.2.2.2.2.1
theorem dX8_takeWord_76 : decode cX8_takeWord 76 = .ok (.iadd, 1) := gd_X8_takeWord_62.2.2.2.2.2.2.2.2.1
theorem dX8_takeWord_77 : decode cX8_takeWord 77 = .ok (.putfield 32, 3) := gd_X8_takeWord_62.2.2.2.2.2.2.2.2.2
theorem gd_X8_takeWord_80 : decode cX8_takeWord 80 = .ok (.goto (-67), 3) ∧ decode cX8_takeWord 83 = .ok (.aload_n 0, 1) ∧ decode cX8_takeWord 84 = .ok (.aload_n 0, 1) ∧ decode cX8_takeWord 85 = .ok (.getfield 32, 3) ∧ decode cX8_takeWord 88 = .ok (.aload_n 0, 1) ∧ decode cX8_takeWord 89 = .ok (.getfield 9, 3) ∧ decode cX8_takeWord 92 = .ok (.isub, 1) ∧ decode cX8_takeWord 93 = .ok (.putfield 15, 3) ∧ decode cX8_takeWord 96 = .ok (.return_, 1) ∧ decode cX8_isLetter 0 = .ok (.iload_n 0, 1) := by decide +kernel
theorem dX8_takeWord_80 : decode cX8_takeWord 80 = .ok (.goto (-67), 3) := gd_X8_takeWord_80.1
theorem dX8_takeWord_83 : decode cX8_takeWord 83 = .ok (.aload_n 0, 1) := gd_X8_takeWord_80.2.1
theorem dX8_takeWord_84 : decode cX8_takeWord 84 = .ok (.aload_n 0, 1) := gd_X8_takeWord_80.2.2.1
theorem dX8_takeWord_85 : decode cX8_takeWord 85 = .ok (.getfield 32, 3) := gd_X8_takeWord_80.2.2.2.1
theorem dX8_takeWord_88 : decode cX8_takeWord 88 = .ok (.aload_n 0, 1) := gd_X8_takeWord_80.2.2.2.2.1
theorem dX8_takeWord_89 : decode cX8_takeWord 89 = .ok (.getfield 9, 3) := gd_X8_takeWord_80.2.2.2.2.2.1
theorem dX8_takeWord_92 : decode cX8_takeWord 92 = .ok (.isub, 1) := gd_X8_takeWord_80.2.2.2.2.2.2.1
theorem dX8_takeWord_93 : decode cX8_takeWord 93 = .ok (.putfield 15, 3) := gd_X8_takeWord_80.2.2.2.2.2.2.2.1
theorem dX8_takeWord_96 : decode cX8_takeWord 96 = .ok (.return_, 1) := gd_X8_takeWord_80.2.2.2.2.2.2.2.2.1
theorem dX8_isLetter_0 : decode cX8_isLetter 0 = .ok (.iload_n 0, 1) := gd_X8_takeWord_80.2.2.2.2.2.2.2.2.2
theorem gd_X8_isLetter_1 : decode cX8_isLetter 1 = .ok (.invokestatic 56, 3) ∧ decode cX8_isLetter 4 = .ok (.ifCond .ne 10, 3) ∧ decode cX8_isLetter 7 = .ok (.iload_n 0, 1) ∧ decode cX8_isLetter 8 = .ok (.invokestatic 51, 3) ∧ decode cX8_isLetter 11 = .ok (.ifCond .eq 7, 3) ∧ decode cX8_isLetter 14 = .ok (.iconst 1, 1) ∧ decode cX8_isLetter 15 = .ok (.goto 4, 3) ∧ decode cX8_isLetter 18 = .ok (.iconst 0, 1) ∧ decode cX8_isLetter 19 = .ok (.ireturn, 1) ∧ decode cX11_write 31 = .ok (.iconst (-1), 1) := by decide +kernel
theorem dX8_isLetter_1 : decode cX8_isLetter 1 = .ok (.invokestatic 56, 3) := gd_X8_isLetter_1.1
theorem dX8_isLetter_4 : decode cX8_isLetter 4 = .ok (.ifCond .ne 10, 3) := gd_X8_isLetter_1.2.1
theorem dX8_isLetter_7 : decode cX8_isLetter 7 = .ok (.iload_n 0, 1) := gd_X8_isLetter_1.2.2.1
theorem dX8_isLetter_8 : decode cX8_isLetter 8 = .ok (.invokestatic 51, 3) := gd_X8_isLetter_1.2.2.2.1
theorem dX8_isLetter_11 : decode cX8_isLetter 11 = .ok (.ifCond .eq 7, 3) := gd_X8_isLetter_1.2.2.2.2.1
theorem dX8_isLetter_14 : decode cX8_isLetter 14 = .ok (.iconst 1, 1) := gd_X8_isLetter_1.2.2.2.2.2.1
theorem dX8_isLetter_15 : decode cX8_isLetter 15 = .ok (.goto 4, 3) := gd_X8_isLetter_1.2.2.2.2.2.2.1
theorem dX8_isLetter_18 : decode cX8_isLetter 18 = .ok (.iconst 0, 1) := gd_X8_isLetter_1.2.2.2.2.2.2.2.1
theorem dX8_isLetter_19 : decode cX8_isLetter 19 = .ok (.ireturn, 1) := gd_X8_isLetter_1.2.2.2.2.2.2.2.2.1
theorem dX11_write_31 : decode cX11_write 31 = .ok (.iconst (-1), 1) := gd_X8_isLetter_1.2.2.2.2.2.2.2.2.2
theorem gd_X11_write_32 : decode cX11_write 32 = .ok (.ireturn, 1) ∧ decode cX11_write 64 = .ok (.aload_n 0, 1) ∧ decode cX11_write 65 = .ok (.getfield 87, 3) ∧ decode cX11_write 68 = .ok (.invokevirtual 248, 3) ∧ decode cX11_write 71 = .ok (.ifCond .eq 96, 3) ∧ decode cX11_write 74 = .ok (.aload_n 0, 1) ∧ decode cX11_write 75 = .ok (.getfield 87, 3) ∧ decode cX11_write 78 = .ok (.getfield 251, 3) ∧ decode cX11_write 81 = .ok (.ifCond .eq 13, 3) ∧ decode cX11_write 84 = .ok (.aload_n 0, 1) := by decide +kernel
theorem dX11_write_32 : decode cX11_write 32 = .ok (.ireturn, 1) := gd_X11_write_32.1
theorem dX11_write_64 : decode cX11_write 64 = .ok (.aload_n 0, 1) := gd_X11_write_32.2.1
theorem dX11_write_65 : decode cX11_write 65 = .ok (.getfield 87, 3) := gd_X11_write_32.2.2.1
theorem dX11_write_68 : decode cX11_write 68 = .ok (.invokevirtual 248, 3) := gd_X11_write_32.2.2.2.1
theorem dX11_write_71 : decode cX11_write 71 = .ok (.ifCond .eq 96, 3) := gd_X11_write_32.2.2.2.2.1
theorem dX11_write_74 : decode cX11_write 74 = .ok (.aload_n 0, 1) := gd_X11_write_32.2.2.2.2.2.1
theorem dX11_write_75 : decode cX11_write 75 = .ok (.getfield 87, 3) := gd_X11_write_32.2.2.2.2.2.2.1
theorem dX11_write_78 : decode cX11_write 78 = .ok (.getfield 251, 3) := gd_X11_write_32.2.2.2.2.2.2.2.1
theorem dX11_write_81 : decode cX11_write 81 = .ok (.ifCond .eq 13, 3) := gd_X11_write_32.2.2.2.2.2.2.2.2.1
theorem dX11_write_84 : decode cX11_write 84 = .ok (.aload_n 0, 1) := gd_X11_write_32.2.2.2.2.2.2.2.2.2
theorem gd_X11_write_85 : decode cX11_write 85 = .ok (.getfield 94, 3) ∧ decode cX11_write 88 = .ok (.invokevirtual 255, 3) ∧ decode cX11_write 91 = .ok (.goto 70, 3) ∧ decode cX11_write 94 = .ok (.aload_n 0, 1) ∧ decode cX11_write 95 = .ok (.getfield 87, 3) ∧ decode cX11_write 98 = .ok (.getfield 258, 3) ∧ decode cX11_write 101 = .ok (.bipush 24, 2) ∧ decode cX11_write 103 = .ok (.if_icmp .le 13, 3) ∧ decode cX11_write 106 = .ok (.aload_n 0, 1) ∧ decode cX11_write 107 = .ok (.getfield 94, 3) := by decide +kernel
theorem dX11_write_85 : decode cX11_write 85 = .ok (.getfield 94, 3) := gd_X11_write_85.1
theorem dX11_write_88 : decode cX11_write 88 = .ok (.invokevirtual 255, 3) := gd_X11_write_85.2.1
theorem dX11_write_91 : decode cX11_write 91 = .ok (.goto 70, 3) := gd_X11_write_85.2.2.1
theorem dX11_write_94 : decode cX11_write 94 = .ok (.aload_n 0, 1) := gd_X11_write_85.2.2.2.1
theorem dX11_write_95 : decode cX11_write 95 = .ok (.getfield 87, 3) := gd_X11_write_85.2.2.2.2.1
theorem dX11_write_98 : decode cX11_write 98 = .ok (.getfield 258, 3) := gd_X11_write_85.2.2.2.2.2.1
theorem dX11_write_101 : decode cX11_write 101 = .ok (.bipush 24, 2) := gd_X11_write_85.2.2.2.2.2.2.1
theorem dX11_write_103 : decode cX11_write 103 = .ok (.if_icmp .le 13, 3) := gd_X11_write_85.2.2.2.2.2.2.2.1
theorem dX11_write_106 : decode cX11_write 106 = .ok (.aload_n 0, 1) := gd_X11_write_85.2.2.2.2.2.2.2.2.1
theorem dX11_write_107 : decode cX11_write 107 = .ok (.getfield 94, 3) := gd_X11_write_85.2.2.2.2.2.2.2.2.2
theorem gd_X11_write_110 : decode cX11_write 110 = .ok (.invokevirtual 259, 3) ∧ decode cX11_write 113 = .ok (.goto 48, 3) ∧ decode cX11_write 116 = .ok (.aload_n 0, 1) ∧ decode cX11_write 117 = .ok (.getfield 94, 3) ∧ decode cX11_write 120 = .ok (.aload_n 0, 1) ∧ decode cX11_write 121 = .ok (.getfield 87, 3) ∧ decode cX11_write 124 = .ok (.aload_n 0, 1) ∧ decode cX11_write 125 = .ok (.getfield 44, 3) ∧ decode cX11_write 128 = .ok (.aload_n 0, 1) ∧ decode cX11_write 129 = .ok (.getfield 18, 3) := by decide +kernel
theorem dX11_write_110 : decode cX11_write 110 = .ok (.invokevirtual 259, 3) := gd_X11_write_110.1
theorem dX11_write_113 : decode cX11_write 113 = .ok (.goto 48, 3) := gd_X11_write_110.2.1
theorem dX11_write_116 : decode cX11_write 116 = .ok (.aload_n 0, 1) := gd_X11_write_110.2.2.1
theorem dX11_write_117 : decode cX11_write 117 = .ok (.getfield 94, 3) := gd_X11_write_110.2.2.2.1
theorem dX11_write_120 : decode cX11_write 120 = .ok (.aload_n 0, 1) := gd_X11_write_110.2.2.2.2.1
theorem dX11_write_121 : decode cX11_write 121 = .ok (.getfield 87, 3) := gd_X11_write_110.2.2.2.2.2.1
theorem dX11_write_124 : decode cX11_write 124 = .ok (.aload_n 0, 1) := gd_X11_write_110.2.2.2.2.2.2.1
theorem dX11_write_125 : decode cX11_write 125 = .ok (.getfield 44, 3) := gd_X11_write_110.2.2.2.2.2.2.2.1
theorem dX11_write_128 : decode cX11_write 128 = .ok (.aload_n 0, 1) := gd_X11_write_110.2.2.2.2.2.2.2.2.1
theorem dX11_write_129 : decode cX11_write 129 = .ok (.getfield 18, 3) := gd_X11_write_110.2.2.2.2.2.2.2.2.2
theorem gd_X11_write_132 : decode cX11_write 132 = .ok (.iload_n 1, 1) ∧ decode cX11_write 133 = .ok (.iload_n 2, 1) ∧ decode cX11_write 134 = .ok (.aload_n 0, 1) ∧ decode cX11_write 135 = .ok (.getfield 12, 3) ∧ decode cX11_write 138 = .ok (.getfield 120, 3) ∧ decode cX11_write 141 = .ok (.aload_n 0, 1) ∧ decode cX11_write 142 = .ok (.getfield 87, 3) ∧ decode cX11_write 145 = .ok (.getfield 262, 3) ∧ decode cX11_write 148 = .ok (.aload_n 0, 1) ∧ decode cX11_write 149 = .ok (.getfield 87, 3) := by decide +kernel
theorem dX11_write_132 : decode cX11_write 132 = .ok (.iload_n 1, 1) := gd_X11_write_132.1
theorem dX11_write_133 : decode cX11_write 133 = .ok (.iload_n 2, 1) := gd_X11_write_132.2.1
theorem dX11_write_134 : decode cX11_write 134 = .ok (.aload_n 0, 1) := gd_X11_write_132.2.2.1
theorem dX11_write_135 : decode cX11_write 135 = .ok (.getfield 12, 3) := gd_X11_write_132.2.2.2.1
theorem dX11_write_138 : decode cX11_write 138 = .ok (.getfield 120, 3) := gd_X11_write_132.2.2.2.2.1
theorem dX11_write_141 : decode cX11_write 141 = .ok (.aload_n 0, 1) := gd_X11_write_132.2.2.2.2.2.1
theorem dX11_write_142 : decode cX11_write 142 = .ok (.getfield 87, 3) := gd_X11_write_132.2.2.2.2.2.2.1
theorem dX11_write_145 : decode cX11_write 145 = .ok (.getfield 262, 3) := gd_X11_write_132.2.2.2.2.2.2.2.1
theorem dX11_write_148 : decode cX11_write 148 = .ok (.aload_n 0, 1) := gd_X11_write_132.2.2.2.2.2.2.2.2.1
theorem dX11_write_149 : decode cX11_write 149 = .ok (.getfield 87, 3) := gd_X11_write_132.2.2.2.2.2.2.2.2.2
theorem gd_X11_write_152 : decode cX11_write 152 = .ok (.getfield 258, 3) ∧ decode cX11_write 155 = .ok (.invokevirtual 168, 3) ∧ decode cX11_write 158 = .ok (.invokevirtual 265, 3) ∧ decode cX11_write 161 = .ok (.iinc 4 1, 3) ∧ decode cX11_write 164 = .ok (.goto (-106), 3) := by decide +kernel
theorem dX11_write_152 : decode cX11_write 152 = .ok (.getfield 258, 3) := gd_X11_write_152.1
theorem dX11_write_155 : decode cX11_write 155 = .ok (.invokevirtual 168, 3) := gd_X11_write_152.2.1
theorem dX11_write_158 : decode cX11_write 158 = .ok (.invokevirtual 265, 3) := gd_X11_write_152.2.2.1
theorem dX11_write_161 : decode cX11_write 161 = .ok (.iinc 4 1, 3) := gd_X11_write_152.2.2.2.1
theorem dX11_write_164 : decode cX11_write 164 = .ok (.goto (-106), 3) := gd_X11_write_152.2.2.2.2
set_option maxHeartbeats 4000000 in
set_option maxRecDepth 100000 in
theorem bm_X4_scanRun {p : Program} {l : Launch} {e : Env} {s : State} {m : MethodId} {args : Array Value} {below : List Frame} {meth : Method} {c : Code} {Q : State → Prop} {A : Nat → Prop} {dC : Nat → ClassId} {dI : Nat → Nat → Nat} {kk : Nat → ClassId} {ad : Nat → Nat} {ws : va_W} {G : Nat → Nat → Int32} {P : Nat → Nat → Option Nat} {U : Nat → Nat → Int64} {V : Nat → Nat → Nat → Int32} {X : Nat → Nat → Nat → Int64} {O : Nat → Nat → Nat → Option Nat} {kd : Nat → Nat} {ln : Nat → Nat} {cnt : Nat} {H : Heap} {locs : List Loc} {ls : Array Slot} (this : Nat) (p0 : Int32) (hk_this : kd this = 5) (c_G84 : Nat → Int32) (c_G87 : Nat → Int32) (c_G88 : Nat → Int32) (hr : f_X4_scanRun G P U V X O kd ln cnt this p0 = some (c_G84, c_G87, c_G88)) (hx : p.tables.exec = Jvm.exec) (hb : c.code = cX4_scanRun) (hml : c.maxLocals = 2) (hown : s.vm.findClass RX4 = some m.cls) (hts : ∀ w ∈ vmX4_scanRun, w.before args s = true) (hA : ∀ q : Nat, s.heap.size ≤ q → A q) (hK : va_K (dC, dI) vwCl (cT kk) s) (hW : LW ws ad kk kd ln G P U V X O) (hT : TYP kd P O (V 0) cnt) (hP : va_P (dC, dI) vwCl ws H) (hD : va_D A ws) (hS : va_S A s.heap H locs) (hl : lv_has ls 2 [(0, .ref (ad this)), (1, .int p0)])
    (K : ∀ (pc : Nat) (ls : Array Slot) (c_G84z : Nat → Int32) (c_G87z : Nat → Int32) (c_G88z : Nat → Int32) (ws : va_W) (H : Heap) (locs : List Loc), some (c_G84z, c_G87z, c_G88z) = some (c_G84, c_G87, c_G88) → decode cX4_scanRun pc = .ok (.return_, 1) → LW ws ad kk kd ln (va_up (va_up (va_up G 84 c_G84z) 87 c_G87z) 88 c_G88z) P U V X O → TYP kd P O (V 0) cnt → va_P (dC, dI) vwCl ws H → va_D A ws → va_S A s.heap H locs → W p l e ({ frames := 3, cells := 0, slots := 0, locals := 80 } : Room) s m args below meth c H locs 0 0 Q (F0 m pc ls [])) : W p l e ({ frames := 3, cells := 0, slots := 0, locals := 80 } : Room) s m args below meth c H locs 0 0 Q (F0 m 0 ls []) := by
  unfold f_X4_scanRun at hr
  refine lv_aload_n hx hb dX4_scanRun_0 rfl (lv_at hl 0 rfl) ?_
  refine lv_aload_n hx hb dX4_scanRun_1 rfl (lv_at hl 0 rfl) ?_
  obtain ⟨i1, hi1⟩ := hW.o4 hk_this
  refine va_get (D := (dC, dI)) (ci := 4) (v := .int ((G 84) this)) (C := RX4) (T := TX4) (N := 9) hx hb hts inX4 hown hK hP i1 hi1 rfl 4 (by decide) (hts (.fieldLink RX4 25 "SpellTurner$Reader" "at" "I") ic_348) (fun _ h9 => h9) rfl dX4_scanRun_2 ?_
  refine lv_topi (fun x5 ex5 => ?_)
  replace hr := vlS hr x5 ex5
  clear ex5
  obtain ⟨i2, hi2⟩ := hW.o4 hk_this
  refine va_put (D := (dC, dI)) (ci := 4) (v := .int x5) (ty := .int) (C := RX4) (T := TX4) (N := 9) hx hb hts inX4 tyX4 tyX4_ok nmX4 hown hK hP hD hS i2 hi2 rfl 7 (by decide) (hts (.fieldLink RX4 34 "SpellTurner$Reader" "start" "I") ic_349) (fun _ h9 => h9) rfl (by decide +kernel) rfl rfl (Nat.le_of_ble_eq_true rfl) dX4_scanRun_5 (fun H locs hP2 hD2 hS => ?_)
  obtain ⟨m5, w3, em5, hP, hD, hW⟩ : ∃ (z : Nat → Int32) (w : va_W), z = (va_up (G 87) this x5) ∧ va_P (dC, dI) vwCl w H ∧ va_D A w ∧ LW w ad kk kd ln (va_up G 87 z) P U V X O := ⟨_, _, rfl, hP2, hD2, hW.setG hD hi2 (by rw [hk_this]; decide) 87 x5 (by rw [hk_this]; rfl)⟩
  replace hr := vlS hr m5 em5
  clear em5
  replace hr := jnS hr
  obtain ⟨k65, hk65, hr⟩ := hr
  have Jk65 : ∀ (c65_G84 : Nat → Int32) (c65_G88 : Nat → Int32) (ws : va_W) (H : Heap) (locs : List Loc) (ls : Array Slot), k65 c65_G84 c65_G88 = some (c_G84, c_G87, c_G88) → LW ws ad kk kd ln (va_up (va_up (va_up G 84 c65_G84) 87 m5) 88 c65_G88) P U V X O → TYP kd P O (V 0) cnt → va_P (dC, dI) vwCl ws H → va_D A ws → va_S A s.heap H locs → lv_has ls 2 [] → W p l e ({ frames := 3, cells := 0, slots := 0, locals := 80 } : Room) s m args below meth c H locs 0 0 Q (F0 m 65 ls []) := by
    intro c65_G84 c65_G88 ws H locs ls hr hW hT hP hD hS hl
    rw [hk65] at hr
    exact K 65 ls _ _ _ ws H _ hr dX4_scanRun_65 hW hT hP hD hS
  have lp8 : ∀ (n8 : Nat), ∀ (d8_G84 : Nat → Int32) (d8_G88 : Nat → Int32) (ws : va_W) (H : Heap) (locs : List Loc) (ls : Array Slot), L_X4_scanRun_8 G P U V X O kd ln cnt this p0 m5 k65 n8 d8_G84 d8_G88 = some (c_G84, c_G87, c_G88) → LW ws ad kk kd ln (va_up (va_up (va_up G 84 d8_G84) 87 m5) 88 d8_G88) P U V X O → TYP kd P O (V 0) cnt → va_P (dC, dI) vwCl ws H → va_D A ws → va_S A s.heap H locs → lv_has ls 2 [(0, .ref (ad this)), (1, .int p0)] → W p l e ({ frames := 3, cells := 0, slots := 0, locals := 80 } : Room) s m args below meth c H locs 0 0 Q (F0 m 8 ls []) := by
    intro n8
    induction n8 with
    | zero => intro d8_G84 d8_G88 ws H locs ls hr hW hT hP hD hS hl; exact nomatch (show none = some (c_G84, c_G87, c_G88) from hr)
    | succ n8 ih8 =>
      intro d8_G84 d8_G88 ws H locs ls hr hW hT hP hD hS hl
      replace hr : B_X4_scanRun_8 G P U V X O kd ln cnt this p0 m5 k65 (L_X4_scanRun_8 G P U V X O kd ln cnt this p0 m5 k65 n8) d8_G84 d8_G88 = some (c_G84, c_G87, c_G88) := hr
      unfold B_X4_scanRun_8 at hr
      refine lv_aload_n hx hb dX4_scanRun_8 rfl (lv_at hl 0 rfl) ?_
      obtain ⟨i4, hi4⟩ := hW.o4 hk_this
      refine va_get (D := (dC, dI)) (ci := 4) (v := .int (d8_G84 this)) (C := RX4) (T := TX4) (N := 9) hx hb hts inX4 hown hK hP i4 hi4 rfl 4 (by decide) (hts (.fieldLink RX4 25 "SpellTurner$Reader" "at" "I") ic_348) (fun _ h9 => h9) rfl dX4_scanRun_9 ?_
      refine lv_aload_n hx hb dX4_scanRun_12 rfl (lv_at hl 0 rfl) ?_
      obtain ⟨i5, hi5⟩ := hW.o4 hk_this
      refine va_get (D := (dC, dI)) (ci := 4) (v := .int ((G 83) this)) (C := RX4) (T := TX4) (N := 9) hx hb hts inX4 hown hK hP i5 hi5 rfl 3 (by decide) (hts (.fieldLink RX4 22 "SpellTurner$Reader" "size" "I") ic_350) (fun _ h9 => h9) rfl dX4_scanRun_13 ?_
      refine lv_icmp_ge (tgt := 65) hx hb dX4_scanRun_16 (by decide) (fun c16 => ?_) (fun c16 => ?_)
      · replace hr := iteT c16 hr
        exact Jk65 d8_G84 d8_G88 ws H _ ls hr hW hT hP hD hS (lv_sub hl [] rfl)
      · replace hr := iteF c16 hr
        refine lv_aload_n hx hb dX4_scanRun_19 rfl (lv_at hl 0 rfl) ?_
        obtain ⟨i6, hi6⟩ := hW.o4 hk_this
        refine va_get (D := (dC, dI)) (ci := 4) (v := .int (d8_G88 this)) (C := RX4) (T := TX4) (N := 9) hx hb hts inX4 hown hK hP i6 hi6 rfl 8 (by decide) (hts (.fieldLink RX4 37 "SpellTurner$Reader" "length" "I") ic_351) (fun _ h9 => h9) rfl dX4_scanRun_20 ?_
        refine lv_iload_n hx hb dX4_scanRun_23 rfl (lv_at hl 1 rfl) ?_
        refine lv_icmp_ge (tgt := 65) hx hb dX4_scanRun_24 (by decide) (fun c24 => ?_) (fun c24 => ?_)
        · replace hr := iteT c24 hr
          exact Jk65 d8_G84 d8_G88 ws H _ ls hr hW hT hP hD hS (lv_sub hl [] rfl)
        · replace hr := iteF c24 hr
          refine lv_aload_n hx hb dX4_scanRun_27 rfl (lv_at hl 0 rfl) ?_
          obtain ⟨i7, hi7⟩ := hW.o4 hk_this
          replace hr := nnS hr
          obtain ⟨a28, hn28, hr⟩ := hr
          have hk_a28 : kd a28 = 100 := hT.1 82 _ _ hn28
          refine va_get (D := (dC, dI)) (ci := 4) (v := .ref (ad a28)) (C := RX4) (T := TX4) (N := 9) hx hb hts inX4 hown hK hP i7 hi7 rfl 2 (by decide) (hts (.fieldLink RX4 18 "SpellTurner$Reader" "text" "[B") ic_352) (fun _ h9 => h9) (congrArg (fun o => some (va_re ad o)) hn28) dX4_scanRun_28 ?_
          refine lv_aload_n hx hb dX4_scanRun_31 rfl (lv_at hl 0 rfl) ?_
          obtain ⟨i8, hi8⟩ := hW.o4 hk_this
          refine va_get (D := (dC, dI)) (ci := 4) (v := .int (d8_G84 this)) (C := RX4) (T := TX4) (N := 9) hx hb hts inX4 hown hK hP i8 hi8 rfl 4 (by decide) (hts (.fieldLink RX4 25 "SpellTurner$Reader" "at" "I") ic_348) (fun _ h9 => h9) rfl dX4_scanRun_32 ?_
          obtain ⟨i9, hi9⟩ := hW.v0 hk_a28
          replace hr := iteS hr
          obtain ⟨hi35, hr⟩ := hr
          refine va_bald (f := ((V 0) a28)) hx hb hK hP i9 0 hi9 rfl (inbV hi35) dX4_scanRun_35 ?_
          replace hr := b1S hr
          obtain ⟨r36z, hc36, hr⟩ := hr
          have hFc := fr_all hD hS hA
          refine va_calli (va_runS (As := [.int (((V 0) a28) (Int32.toNatClampNeg (d8_G84 this)))]) (rest := []) ⟨hx, hb, hml, hown, hts⟩ (m_X10_isSmall l dC dI kk ad H.size ws (va_up (va_up (va_up G 84 d8_G84) 87 m5) 88 d8_G88) P U V X O kd ln cnt (((V 0) a28) (Int32.toNatClampNeg (d8_G84 this))) hW hT r36z hc36) (va_cwS 1 hts gc_RX4_X10_isSmall_190 rfl rfl rfl (by decide +kernel) ⟨Nat.le_of_ble_eq_true rfl, Nat.le_of_ble_eq_true rfl⟩) ⟨fun a U g mk q => by obtain ⟨q0, q1, qP, qK, qD⟩ := q; exact ⟨q0, q1, qP, va_K.moved (u := U) (U := U.calling g mk a) (Vm.Alike.refl U.vm) qK, qD⟩, fun U hU hW => ⟨rfl, by rw [hU], by rw [hU]; exact hP, va_K.moved hW.alike hK, hD.weaken (fun _ _ _ _ => trivial)⟩⟩ rfl rfl hl.1 rfl (lv_room (Nat.le_of_ble_eq_true rfl)) dX4_scanRun_36 ⟨Nat.le_of_ble_eq_true rfl, Nat.le_of_ble_eq_true rfl⟩) hS (fun q _ h => hFc q h) hFc (fun r36 w10 t H1 locs ht hvm hw hB hz1 hk1 hS => ?_)
          obtain ⟨hw0, hW, hT⟩ := hw
          replace hw0 : r36 = r36z := hw0
          subst hw0
          obtain ⟨hP1, hK1, hD1⟩ := hB
          rw [ht] at hP1
          obtain ⟨hP, hD⟩ := jn_all (w1 := w10) hFc hP1 hD1
          replace hP : va_P (dC, dI) vwCl w10 H1 := hP
          replace hD : va_D A w10 := hD
          clear hFc hP1 hK1 hD1 hk1 hz1 ht hvm
          generalize H1 = H at hP hS ⊢
          refine lv_if_eq (tgt := 65) hx hb dX4_scanRun_39 (by decide) (fun c39 => ?_) (fun c39 => ?_)
          · replace hr := iteT c39 hr
            exact Jk65 d8_G84 d8_G88 w10 H _ ls hr hW hT hP hD hS (lv_sub hl [] rfl)
          · replace hr := iteF c39 hr
            refine lv_aload_n hx hb dX4_scanRun_42 rfl (lv_at hl 0 rfl) ?_
            refine lv_dup hx hb dX4_scanRun_43 rfl ?_
            obtain ⟨i11, hi11⟩ := hW.o4 hk_this
            refine va_get (D := (dC, dI)) (ci := 4) (v := .int (d8_G88 this)) (C := RX4) (T := TX4) (N := 9) hx hb hts inX4 hown hK hP i11 hi11 rfl 8 (by decide) (hts (.fieldLink RX4 37 "SpellTurner$Reader" "length" "I") ic_351) (fun _ h9 => h9) rfl dX4_scanRun_44 ?_
            refine lv_iconst (v := 1) hx hb dX4_scanRun_47 (by decide +kernel) ?_
            refine lv_iadd hx hb dX4_scanRun_48 ?_
            refine lv_topi (fun x49 ex49 => ?_)
            replace hr := vlS hr x49 ex49
            clear ex49
            obtain ⟨i12, hi12⟩ := hW.o4 hk_this
            refine va_put (D := (dC, dI)) (ci := 4) (v := .int x49) (ty := .int) (C := RX4) (T := TX4) (N := 9) hx hb hts inX4 tyX4 tyX4_ok nmX4 hown hK hP hD hS i12 hi12 rfl 8 (by decide) (hts (.fieldLink RX4 37 "SpellTurner$Reader" "length" "I") ic_351) (fun _ h9 => h9) rfl (by decide +kernel) rfl rfl (Nat.le_of_ble_eq_true rfl) dX4_scanRun_49 (fun H locs hP2 hD2 hS => ?_)
            obtain ⟨m49, w13, em49, hP, hD, hW⟩ : ∃ (z : Nat → Int32) (w : va_W), z = (va_up d8_G88 this x49) ∧ va_P (dC, dI) vwCl w H ∧ va_D A w ∧ LW w ad kk kd ln (va_up (va_up (va_up (va_up G 84 d8_G84) 87 m5) 88 d8_G88) 88 z) P U V X O := ⟨_, _, rfl, hP2, hD2, hW.setG hD hi12 (by rw [hk_this]; decide) 88 x49 (by rw [hk_this]; rfl)⟩
            replace hr := vlS hr m49 em49
            clear em49
            refine lv_aload_n hx hb dX4_scanRun_52 rfl (lv_at hl 0 rfl) ?_
            refine lv_dup hx hb dX4_scanRun_53 rfl ?_
            obtain ⟨i14, hi14⟩ := hW.o4 hk_this
            refine va_get (D := (dC, dI)) (ci := 4) (v := .int (d8_G84 this)) (C := RX4) (T := TX4) (N := 9) hx hb hts inX4 hown hK hP i14 hi14 rfl 4 (by decide) (hts (.fieldLink RX4 25 "SpellTurner$Reader" "at" "I") ic_348) (fun _ h9 => h9) rfl dX4_scanRun_54 ?_
            refine lv_iconst (v := 1) hx hb dX4_scanRun_57 (by decide +kernel) ?_
            refine lv_iadd hx hb dX4_scanRun_58 ?_
            refine lv_topi (fun x59 ex59 => ?_)
            replace hr := vlS hr x59 ex59
            clear ex59
            obtain ⟨i15, hi15⟩ := hW.o4 hk_this
            refine va_put (D := (dC, dI)) (ci := 4) (v := .int x59) (ty := .int) (C := RX4) (T := TX4) (N := 9) hx hb hts inX4 tyX4 tyX4_ok nmX4 hown hK hP hD hS i15 hi15 rfl 4 (by decide) (hts (.fieldLink RX4 25 "SpellTurner$Reader" "at" "I") ic_348) (fun _ h9 => h9) rfl (by decide +kernel) rfl rfl (Nat.le_of_ble_eq_true rfl) dX4_scanRun_59 (fun H locs hP2 hD2 hS => ?_)
            obtain ⟨m59, w16, em59, hP, hD, hW⟩ : ∃ (z : Nat → Int32) (w : va_W), z = (va_up d8_G84 this x59) ∧ va_P (dC, dI) vwCl w H ∧ va_D A w ∧ LW w ad kk kd ln (va_up (va_up (va_up (va_up (va_up G 84 d8_G84) 87 m5) 88 d8_G88) 88 m49) 84 z) P U V X O := ⟨_, _, rfl, hP2, hD2, hW.setG hD hi15 (by rw [hk_this]; decide) 84 x59 (by rw [hk_this]; rfl)⟩
            replace hr := vlS hr m59 em59
            clear em59
            refine lv_goto (tgt := 8) hx hb dX4_scanRun_62 (by decide) ?_
            have eG : (va_up (va_up (va_up (va_up (va_up G 84 d8_G84) 87 m5) 88 d8_G88) 88 m49) 84 m59) = (va_up (va_up (va_up G 84 m59) 87 m5) 88 m49) := by
              funext k
              by_cases h84 : k = 84
              · subst h84; rfl
              by_cases h87 : k = 87
              · subst h87; rfl
              by_cases h88 : k = 88
              · subst h88; rfl
              · simp only [va_up, h84, h87, h88, if_false]
            rw [eG] at hW
            clear eG
            exact ih8 m59 m49 w16 H _ ls hr hW hT hP hD hS (lv_sub hl [0, 1] rfl)
  have eG : (va_up G 87 m5) = (va_up (va_up (va_up G 84 (G 84)) 87 m5) 88 (G 88)) := by
    funext k
    by_cases h84 : k = 84
    · subst h84; rfl
    by_cases h87 : k = 87
    · subst h87; rfl
    by_cases h88 : k = 88
    · subst h88; rfl
    · simp only [va_up, h84, h87, h88, if_false]
  rw [eG] at hW
  clear eG
  exact lp8 NN (G 84) (G 88) w3 H _ ls hr hW hT hP hD hS (lv_sub hl [0, 1] rfl)
set_option maxHeartbeats 4000000 in
set_option maxRecDepth 100000 in
theorem m_X4_scanRun (l : Launch) (dC : Nat → ClassId) (dI : Nat → Nat → Nat) (kk : Nat → ClassId) (ad : Nat → Nat) (sz : Nat) (ws : va_W) (G : Nat → Nat → Int32) (P : Nat → Nat → Option Nat) (U : Nat → Nat → Int64) (V : Nat → Nat → Nat → Int32) (X : Nat → Nat → Nat → Int64) (O : Nat → Nat → Nat → Option Nat) (kd : Nat → Nat) (ln : Nat → Nat) (cnt : Nat) (this : Nat) (p0 : Int32) (hk_this : kd this = 5) (hW : LW ws ad kk kd ln G P U V X O) (hT : TYP kd P O (V 0) cnt) (c_G84 : Nat → Int32) (c_G87 : Nat → Int32) (c_G88 : Nat → Int32) (hr : f_X4_scanRun G P U V X O kd ln cnt this p0 = some (c_G84, c_G87, c_G88)) : Met l yX4_scanRun vmX4_scanRun ({ frames := 3, cells := 0, slots := 0, locals := 80 } : Room) (va_Pc [.ref (ad this), .int p0] (fun U => U.heap.size = sz ∧ va_P (dC, dI) vwCl ws U.heap ∧ va_K (dC, dI) vwCl (cT kk) U ∧ va_D (fun _ => True) ws)) (va_Qv (fun w => LW w ad kk kd ln (va_up (va_up (va_up G 84 c_G84) 87 c_G87) 88 c_G88) P U V X O ∧ TYP kd P O (V 0) cnt) (fun w t => va_P (dC, dI) vwCl w t.heap ∧ va_K (dC, dI) vwCl (cT kk) t ∧ va_D (va_A ws sz) w) (va_A ws sz)) 0 0 (va_A ws sz) := by
  refine Met.ofW (cc := cX4_scanRun) (maxL := 2) (ret := none) (by decide) rfl ?_
  intro p e s m args below meth c s₁ B hml hv
  obtain ⟨rfl, hsz, hP, hK, hD0⟩ := hv
  have hx := B.exec
  have hb := B.bytes
  have hrt := B.returns
  have hts := atoms_spec (ws := vmX4_scanRun) B.pre
  have hown : s.vm.findClass RX4 = some m.cls := findClass_of_methodNamed B.named
  subst hsz
  have hD := hD0.self (sz := s.heap.size)
  generalize hAe : va_A ws s.heap.size = A at hD ⊢
  have hA : ∀ q : Nat, s.heap.size ≤ q → A q := fun q h => by rw [← hAe]; exact Or.inr h
  have hS : va_S A s.heap s.heap [] := va_S.rf
  have hl := lv_entry ([.ref (ad this), .int p0]) (n := 2) (Nat.le_of_ble_eq_true rfl)
  rw [lg_entry_eq]
  generalize (lg_sl ([.ref (ad this), .int p0]) ++ List.replicate (2 - (lg_sl ([.ref (ad this), .int p0])).length) Slot.unset).toArray = ls at hl ⊢
  exact bm_X4_scanRun this p0 hk_this c_G84 c_G87 c_G88 hr hx hb hml hown hts hA hK hW hT hP hD hS hl (fun pc ls c_G84z c_G87z c_G88z ws H locs he hd hW hT hP hD hS => by cases he; exact W.vret hx hb hrt (fun t ht hW9 => ⟨⟨ws, rfl, ⟨hW, hT⟩, by rw [ht]; exact hP, va_K.moved hW9.alike hK, hD⟩, hS.F ht⟩) hS.2.2 hd)
set_option maxHeartbeats 4000000 in
set_option maxRecDepth 100000 in
theorem bm_X4_nextToken {p : Program} {l : Launch} {e : Env} {s : State} {m : MethodId} {args : Array Value} {below : List Frame} {meth : Method} {c : Code} {Q : State → Prop} {A : Nat → Prop} {dC : Nat → ClassId} {dI : Nat → Nat → Nat} {kk : Nat → ClassId} {ad : Nat → Nat} {ws : va_W} {G : Nat → Nat → Int32} {P : Nat → Nat → Option Nat} {U : Nat → Nat → Int64} {V : Nat → Nat → Nat → Int32} {X : Nat → Nat → Nat → Int64} {O : Nat → Nat → Nat → Option Nat} {kd : Nat → Nat} {ln : Nat → Nat} {cnt : Nat} {H : Heap} {locs : List Loc} {ls : Array Slot} (this : Nat) (hk_this : kd this = 5) (c_G84 : Nat → Int32) (c_G85 : Nat → Int32) (c_G86 : Nat → Int32) (c_G87 : Nat → Int32) (c_G88 : Nat → Int32) (hr : f_X4_nextToken G P U V X O kd ln cnt this = some (c_G84, c_G85, c_G86, c_G87, c_G88)) (hx : p.tables.exec = Jvm.exec) (hb : c.code = cX4_nextToken) (hml : c.maxLocals = 1) (hown : s.vm.findClass RX4 = some m.cls) (hts : ∀ w ∈ vmX4_nextToken, w.before args s = true) (hA : ∀ q : Nat, s.heap.size ≤ q → A q) (hK : va_K (dC, dI) vwCl (cT kk) s) (hW : LW ws ad kk kd ln G P U V X O) (hT : TYP kd P O (V 0) cnt) (hP : va_P (dC, dI) vwCl ws H) (hD : va_D A ws) (hS : va_S A s.heap H locs) (hl : lv_has ls 1 [(0, .ref (ad this))])
    (K : ∀ (pc : Nat) (ls : Array Slot) (c_G84z : Nat → Int32) (c_G85z : Nat → Int32) (c_G86z : Nat → Int32) (c_G87z : Nat → Int32) (c_G88z : Nat → Int32) (ws : va_W) (H : Heap) (locs : List Loc), some (c_G84z, c_G85z, c_G86z, c_G87z, c_G88z) = some (c_G84, c_G85, c_G86, c_G87, c_G88) → decode cX4_nextToken pc = .ok (.return_, 1) → LW ws ad kk kd ln (va_up (va_up (va_up (va_up (va_up G 84 c_G84z) 85 c_G85z) 86 c_G86z) 87 c_G87z) 88 c_G88z) P U V X O → TYP kd P O (V 0) cnt → va_P (dC, dI) vwCl ws H → va_D A ws → va_S A s.heap H locs → W p l e ({ frames := 4, cells := 0, slots := 0, locals := 101 } : Room) s m args below meth c H locs 0 0 Q (F0 m pc ls [])) : W p l e ({ frames := 4, cells := 0, slots := 0, locals := 101 } : Room) s m args below meth c H locs 0 0 Q (F0 m 0 ls []) := by
  unfold f_X4_nextToken at hr
  replace hr := jnS hr
  obtain ⟨k52, hk52, hr⟩ := hr
  have Jk52 : ∀ (c52_G84 : Nat → Int32) (ws : va_W) (H : Heap) (locs : List Loc) (ls : Array Slot), k52 c52_G84 = some (c_G84, c_G85, c_G86, c_G87, c_G88) → LW ws ad kk kd ln (va_up G 84 c52_G84) P U V X O → TYP kd P O (V 0) cnt → va_P (dC, dI) vwCl ws H → va_D A ws → va_S A s.heap H locs → lv_has ls 1 [(0, .ref (ad this))] → W p l e ({ frames := 4, cells := 0, slots := 0, locals := 101 } : Room) s m args below meth c H locs 0 0 Q (F0 m 52 ls []) := by
    intro c52_G84 ws H locs ls hr hW hT hP hD hS hl
    rw [hk52] at hr
    refine lv_aload_n hx hb dX4_nextToken_52 rfl (lv_at hl 0 rfl) ?_
    refine lv_aload_n hx hb dX4_nextToken_53 rfl (lv_at hl 0 rfl) ?_
    obtain ⟨i1, hi1⟩ := hW.o4 hk_this
    refine va_get (D := (dC, dI)) (ci := 4) (v := .int (c52_G84 this)) (C := RX4) (T := TX4) (N := 9) hx hb hts inX4 hown hK hP i1 hi1 rfl 4 (by decide) (hts (.fieldLink RX4 25 "SpellTurner$Reader" "at" "I") ic_348) (fun _ h9 => h9) rfl dX4_nextToken_54 ?_
    refine lv_topi (fun x57 ex57 => ?_)
    replace hr := vlS hr x57 ex57
    clear ex57
    obtain ⟨i2, hi2⟩ := hW.o4 hk_this
    refine va_put (D := (dC, dI)) (ci := 4) (v := .int x57) (ty := .int) (C := RX4) (T := TX4) (N := 9) hx hb hts inX4 tyX4 tyX4_ok nmX4 hown hK hP hD hS i2 hi2 rfl 6 (by decide) (hts (.fieldLink RX4 31 "SpellTurner$Reader" "place" "I") ic_355) (fun _ h9 => h9) rfl (by decide +kernel) rfl rfl (Nat.le_of_ble_eq_true rfl) dX4_nextToken_57 (fun H locs hP2 hD2 hS => ?_)
    obtain ⟨m57, w3, em57, hP, hD, hW⟩ : ∃ (z : Nat → Int32) (w : va_W), z = (va_up (G 86) this x57) ∧ va_P (dC, dI) vwCl w H ∧ va_D A w ∧ LW w ad kk kd ln (va_up (va_up G 84 c52_G84) 86 z) P U V X O := ⟨_, _, rfl, hP2, hD2, hW.setG hD hi2 (by rw [hk_this]; decide) 86 x57 (by rw [hk_this]; rfl)⟩
    replace hr := vlS hr m57 em57
    clear em57
    refine lv_aload_n hx hb dX4_nextToken_60 rfl (lv_at hl 0 rfl) ?_
    refine lv_iconst (v := 0) hx hb dX4_nextToken_61 (by decide +kernel) ?_
    obtain ⟨i4, hi4⟩ := hW.o4 hk_this
    refine va_put (D := (dC, dI)) (ci := 4) (v := .int 0) (ty := .int) (C := RX4) (T := TX4) (N := 9) hx hb hts inX4 tyX4 tyX4_ok nmX4 hown hK hP hD hS i4 hi4 rfl 8 (by decide) (hts (.fieldLink RX4 37 "SpellTurner$Reader" "length" "I") ic_351) (fun _ h9 => h9) rfl (by decide +kernel) rfl rfl (Nat.le_of_ble_eq_true rfl) dX4_nextToken_62 (fun H locs hP2 hD2 hS => ?_)
    obtain ⟨m62, w5, em62, hP, hD, hW⟩ : ∃ (z : Nat → Int32) (w : va_W), z = (va_up (G 88) this 0) ∧ va_P (dC, dI) vwCl w H ∧ va_D A w ∧ LW w ad kk kd ln (va_up (va_up (va_up G 84 c52_G84) 86 m57) 88 z) P U V X O := ⟨_, _, rfl, hP2, hD2, hW.setG hD hi4 (by rw [hk_this]; decide) 88 0 (by rw [hk_this]; rfl)⟩
    replace hr := vlS hr m62 em62
    clear em62
    refine lv_aload_n hx hb dX4_nextToken_65 rfl (lv_at hl 0 rfl) ?_
    obtain ⟨i6, hi6⟩ := hW.o4 hk_this
    refine va_get (D := (dC, dI)) (ci := 4) (v := .int (c52_G84 this)) (C := RX4) (T := TX4) (N := 9) hx hb hts inX4 hown hK hP i6 hi6 rfl 4 (by decide) (hts (.fieldLink RX4 25 "SpellTurner$Reader" "at" "I") ic_348) (fun _ h9 => h9) rfl dX4_nextToken_66 ?_
    refine lv_aload_n hx hb dX4_nextToken_69 rfl (lv_at hl 0 rfl) ?_
    obtain ⟨i7, hi7⟩ := hW.o4 hk_this
    refine va_get (D := (dC, dI)) (ci := 4) (v := .int ((G 83) this)) (C := RX4) (T := TX4) (N := 9) hx hb hts inX4 hown hK hP i7 hi7 rfl 3 (by decide) (hts (.fieldLink RX4 22 "SpellTurner$Reader" "size" "I") ic_350) (fun _ h9 => h9) rfl dX4_nextToken_70 ?_
    replace hr := jnS hr
    obtain ⟨j217, hj217, hr⟩ := hr
    have Jj217 : ∀ (c217_G84 : Nat → Int32) (c217_G85 : Nat → Int32) (c217_G87 : Nat → Int32) (c217_G88 : Nat → Int32) (ws : va_W) (H : Heap) (locs : List Loc) (ls : Array Slot), j217 c217_G84 c217_G85 c217_G87 c217_G88 = some (c_G84, c_G85, c_G86, c_G87, c_G88) → LW ws ad kk kd ln (va_up (va_up (va_up (va_up (va_up G 84 c217_G84) 85 c217_G85) 86 m57) 87 c217_G87) 88 c217_G88) P U V X O → TYP kd P O (V 0) cnt → va_P (dC, dI) vwCl ws H → va_D A ws → va_S A s.heap H locs → lv_has ls 1 [] → W p l e ({ frames := 4, cells := 0, slots := 0, locals := 101 } : Room) s m args below meth c H locs 0 0 Q (F0 m 217 ls []) := by
      intro c217_G84 c217_G85 c217_G87 c217_G88 ws H locs ls hr hW hT hP hD hS hl
      rw [hj217] at hr
      exact K 217 ls _ _ _ _ _ ws H _ hr dX4_nextToken_217 hW hT hP hD hS
    refine lv_icmp_lt (tgt := 84) hx hb dX4_nextToken_73 (by decide) (fun c73 => ?_) (fun c73 => ?_)
    · replace hr := iteT c73 hr
      refine lv_aload_n hx hb dX4_nextToken_84 rfl (lv_at hl 0 rfl) ?_
      obtain ⟨i8, hi8⟩ := hW.o4 hk_this
      replace hr := nnS hr
      obtain ⟨a85, hn85, hr⟩ := hr
      have hk_a85 : kd a85 = 100 := hT.1 82 _ _ hn85
      refine va_get (D := (dC, dI)) (ci := 4) (v := .ref (ad a85)) (C := RX4) (T := TX4) (N := 9) hx hb hts inX4 hown hK hP i8 hi8 rfl 2 (by decide) (hts (.fieldLink RX4 18 "SpellTurner$Reader" "text" "[B") ic_352) (fun _ h9 => h9) (congrArg (fun o => some (va_re ad o)) hn85) dX4_nextToken_85 ?_
      refine lv_aload_n hx hb dX4_nextToken_88 rfl (lv_at hl 0 rfl) ?_
      obtain ⟨i9, hi9⟩ := hW.o4 hk_this
      refine va_get (D := (dC, dI)) (ci := 4) (v := .int (c52_G84 this)) (C := RX4) (T := TX4) (N := 9) hx hb hts inX4 hown hK hP i9 hi9 rfl 4 (by decide) (hts (.fieldLink RX4 25 "SpellTurner$Reader" "at" "I") ic_348) (fun _ h9 => h9) rfl dX4_nextToken_89 ?_
      obtain ⟨i10, hi10⟩ := hW.v0 hk_a85
      replace hr := iteS hr
      obtain ⟨hi92, hr⟩ := hr
      refine va_bald (f := ((V 0) a85)) hx hb hK hP i10 0 hi10 rfl (inbV hi92) dX4_nextToken_92 ?_
      refine lv_bipush (v := 59) hx hb dX4_nextToken_93 (by decide +kernel) ?_
      refine lv_icmp_ne (tgt := 116) hx hb dX4_nextToken_95 (by decide) (fun c95 => ?_) (fun c95 => ?_)
      · replace hr := iteF c95 hr
        refine lv_aload_n hx hb dX4_nextToken_116 rfl (lv_at hl 0 rfl) ?_
        obtain ⟨i11, hi11⟩ := hW.o4 hk_this
        replace hr := nnS hr
        obtain ⟨a117, hn117, hr⟩ := hr
        have hk_a117 : kd a117 = 100 := hT.1 82 _ _ hn117
        refine va_get (D := (dC, dI)) (ci := 4) (v := .ref (ad a117)) (C := RX4) (T := TX4) (N := 9) hx hb hts inX4 hown hK hP i11 hi11 rfl 2 (by decide) (hts (.fieldLink RX4 18 "SpellTurner$Reader" "text" "[B") ic_352) (fun _ h9 => h9) (congrArg (fun o => some (va_re ad o)) hn117) dX4_nextToken_117 ?_
        refine lv_aload_n hx hb dX4_nextToken_120 rfl (lv_at hl 0 rfl) ?_
        obtain ⟨i12, hi12⟩ := hW.o4 hk_this
        refine va_get (D := (dC, dI)) (ci := 4) (v := .int (c52_G84 this)) (C := RX4) (T := TX4) (N := 9) hx hb hts inX4 hown hK hP i12 hi12 rfl 4 (by decide) (hts (.fieldLink RX4 25 "SpellTurner$Reader" "at" "I") ic_348) (fun _ h9 => h9) rfl dX4_nextToken_121 ?_
        obtain ⟨i13, hi13⟩ := hW.v0 hk_a117
        replace hr := iteS hr
        obtain ⟨hi124, hr⟩ := hr
        refine va_bald (f := ((V 0) a117)) hx hb hK hP i13 0 hi13 rfl (inbV hi124) dX4_nextToken_124 ?_
        refine lv_bipush (v := 39) hx hb dX4_nextToken_125 (by decide +kernel) ?_
        refine lv_icmp_ne (tgt := 193) hx hb dX4_nextToken_127 (by decide) (fun c127 => ?_) (fun c127 => ?_)
        · replace hr := iteF c127 hr
          refine lv_aload_n hx hb dX4_nextToken_193 rfl (lv_at hl 0 rfl) ?_
          refine lv_aload_n hx hb dX4_nextToken_194 rfl (lv_at hl 0 rfl) ?_
          obtain ⟨i14, hi14⟩ := hW.o4 hk_this
          refine va_get (D := (dC, dI)) (ci := 4) (v := .int ((G 83) this)) (C := RX4) (T := TX4) (N := 9) hx hb hts inX4 hown hK hP i14 hi14 rfl 3 (by decide) (hts (.fieldLink RX4 22 "SpellTurner$Reader" "size" "I") ic_350) (fun _ h9 => h9) rfl dX4_nextToken_195 ?_
          replace hr := b3S hr
          obtain ⟨c198_G84, c198_G87, c198_G88, hc198, hr⟩ := hr
          have hFc := fr_all hD hS hA
          obtain ⟨i15, hi15⟩ := hW.o4 hk_this
          refine va_callv (va_runV (As := [.int ((G 83) this)]) (rest := []) ⟨hx, hb, hml, hown, hts⟩ (m_X4_scanRun l dC dI kk ad H.size w5 (va_up (va_up (va_up G 84 c52_G84) 86 m57) 88 m62) P U V X O kd ln cnt this ((G 83) this) hk_this hW hT c198_G84 c198_G87 c198_G88 hc198) (cwV 1 hts gc_RX4_X4_scanRun_186 rfl rfl rfl (by decide +kernel) ⟨Nat.le_of_ble_eq_true rfl, Nat.le_of_ble_eq_true rfl⟩) ⟨fun a U g mk q => by obtain ⟨q0, q1, qP, qK, qD⟩ := q; exact ⟨q0, q1, qP, va_K.moved (u := U) (U := U.calling g mk a) (Vm.Alike.refl U.vm) qK, qD⟩, va_recv hK hP (ci := 4) (q0 := i15) rfl hi15, fun U hU hW => ⟨rfl, by rw [hU], by rw [hU]; exact hP, va_K.moved hW.alike hK, hD.weaken (fun _ _ _ _ => trivial)⟩⟩ rfl rfl hl.1 rfl (lv_room (Nat.le_of_ble_eq_true rfl)) dX4_nextToken_198 ⟨Nat.le_of_ble_eq_true rfl, Nat.le_of_ble_eq_true rfl⟩) hS (fun q _ h => hFc q h) hFc (fun w16 t H1 locs ht hvm hw hB hz1 hk1 hS => ?_)
          obtain ⟨hW, hT⟩ := hw
          obtain ⟨hP1, hK1, hD1⟩ := hB
          rw [ht] at hP1
          obtain ⟨hP, hD⟩ := jn_all (w1 := w16) hFc hP1 hD1
          replace hP : va_P (dC, dI) vwCl w16 H1 := hP
          replace hD : va_D A w16 := hD
          clear hFc hP1 hK1 hD1 hk1 hz1 ht hvm
          generalize H1 = H at hP hS ⊢
          refine lv_aload_n hx hb dX4_nextToken_201 rfl (lv_at hl 0 rfl) ?_
          refine lv_aload_n hx hb dX4_nextToken_202 rfl (lv_at hl 0 rfl) ?_
          obtain ⟨i17, hi17⟩ := hW.o4 hk_this
          refine va_get (D := (dC, dI)) (ci := 4) (v := .int (c198_G88 this)) (C := RX4) (T := TX4) (N := 9) hx hb hts inX4 hown hK hP i17 hi17 rfl 8 (by decide) (hts (.fieldLink RX4 37 "SpellTurner$Reader" "length" "I") ic_351) (fun _ h9 => h9) rfl dX4_nextToken_203 ?_
          replace hr := jnS hr
          obtain ⟨j214, hj214, hr⟩ := hr
          have Jj214 : ∀ (t214_0 : Int32) (ws : va_W) (H : Heap) (locs : List Loc) (ls : Array Slot), j214 t214_0 = some (c_G84, c_G85, c_G86, c_G87, c_G88) → LW ws ad kk kd ln (va_up (va_up (va_up (va_up G 84 c198_G84) 86 m57) 87 c198_G87) 88 c198_G88) P U V X O → TYP kd P O (V 0) cnt → va_P (dC, dI) vwCl ws H → va_D A ws → va_S A s.heap H locs → lv_has ls 1 [] → W p l e ({ frames := 4, cells := 0, slots := 0, locals := 101 } : Room) s m args below meth c H locs 0 0 Q (F0 m 214 ls [.int t214_0, .ref (ad this)]) := by
            intro t214_0 ws H locs ls hr hW hT hP hD hS hl
            rw [hj214] at hr
            obtain ⟨i18, hi18⟩ := hW.o4 hk_this
            refine va_put (D := (dC, dI)) (ci := 4) (v := .int t214_0) (ty := .int) (C := RX4) (T := TX4) (N := 9) hx hb hts inX4 tyX4 tyX4_ok nmX4 hown hK hP hD hS i18 hi18 rfl 5 (by decide) (hts (.fieldLink RX4 28 "SpellTurner$Reader" "token" "I") ic_360) (fun _ h9 => h9) rfl (by decide +kernel) rfl rfl (Nat.le_of_ble_eq_true rfl) dX4_nextToken_214 (fun H locs hP2 hD2 hS => ?_)
            obtain ⟨m214, w19, em214, hP, hD, hW⟩ : ∃ (z : Nat → Int32) (w : va_W), z = (va_up (G 85) this t214_0) ∧ va_P (dC, dI) vwCl w H ∧ va_D A w ∧ LW w ad kk kd ln (va_up (va_up (va_up (va_up (va_up G 84 c198_G84) 86 m57) 87 c198_G87) 88 c198_G88) 85 z) P U V X O := ⟨_, _, rfl, hP2, hD2, hW.setG hD hi18 (by rw [hk_this]; decide) 85 t214_0 (by rw [hk_this]; rfl)⟩
            replace hr := vlS hr m214 em214
            clear em214
            have eG : (va_up (va_up (va_up (va_up (va_up G 84 c198_G84) 86 m57) 87 c198_G87) 88 c198_G88) 85 m214) = (va_up (va_up (va_up (va_up (va_up G 84 c198_G84) 85 m214) 86 m57) 87 c198_G87) 88 c198_G88) := by
              funext k
              by_cases h84 : k = 84
              · subst h84; rfl
              by_cases h85 : k = 85
              · subst h85; rfl
              by_cases h86 : k = 86
              · subst h86; rfl
              by_cases h87 : k = 87
              · subst h87; rfl
              by_cases h88 : k = 88
              · subst h88; rfl
              · simp only [va_up, h84, h85, h86, h87, h88, if_false]
            rw [eG] at hW
            clear eG
            exact Jj217 c198_G84 m214 c198_G87 c198_G88 w19 H _ ls hr hW hT hP hD hS (lv_sub hl [] rfl)
          refine lv_if_le (tgt := 213) hx hb dX4_nextToken_206 (by decide) (fun c206 => ?_) (fun c206 => ?_)
          · replace hr := iteT c206 hr
            refine lv_iconst (v := 4) hx hb dX4_nextToken_213 (by decide +kernel) ?_
            have eG : (va_up (va_up (va_up (va_up (va_up (va_up G 84 c52_G84) 86 m57) 88 m62) 84 c198_G84) 87 c198_G87) 88 c198_G88) = (va_up (va_up (va_up (va_up G 84 c198_G84) 86 m57) 87 c198_G87) 88 c198_G88) := by
              funext k
              by_cases h84 : k = 84
              · subst h84; rfl
              by_cases h86 : k = 86
              · subst h86; rfl
              by_cases h87 : k = 87
              · subst h87; rfl
              by_cases h88 : k = 88
              · subst h88; rfl
              · simp only [va_up, h84, h86, h87, h88, if_false]
            rw [eG] at hW
            clear eG
            exact Jj214 4 w16 H _ ls hr hW hT hP hD hS (lv_sub hl [] rfl)
          · replace hr := iteF c206 hr
            refine lv_iconst (v := 1) hx hb dX4_nextToken_209 (by decide +kernel) ?_
            refine lv_goto (tgt := 214) hx hb dX4_nextToken_210 (by decide) ?_
            have eG : (va_up (va_up (va_up (va_up (va_up (va_up G 84 c52_G84) 86 m57) 88 m62) 84 c198_G84) 87 c198_G87) 88 c198_G88) = (va_up (va_up (va_up (va_up G 84 c198_G84) 86 m57) 87 c198_G87) 88 c198_G88) := by
              funext k
              by_cases h84 : k = 84
              · subst h84; rfl
              by_cases h86 : k = 86
              · subst h86; rfl
              by_cases h87 : k = 87
              · subst h87; rfl
              by_cases h88 : k = 88
              · subst h88; rfl
              · simp only [va_up, h84, h86, h87, h88, if_false]
            rw [eG] at hW
            clear eG
            exact Jj214 1 w16 H _ ls hr hW hT hP hD hS (lv_sub hl [] rfl)
        · replace hr := iteT c127 hr
          refine lv_aload_n hx hb dX4_nextToken_130 rfl (lv_at hl 0 rfl) ?_
          refine lv_dup hx hb dX4_nextToken_131 rfl ?_
          obtain ⟨i20, hi20⟩ := hW.o4 hk_this
          refine va_get (D := (dC, dI)) (ci := 4) (v := .int (c52_G84 this)) (C := RX4) (T := TX4) (N := 9) hx hb hts inX4 hown hK hP i20 hi20 rfl 4 (by decide) (hts (.fieldLink RX4 25 "SpellTurner$Reader" "at" "I") ic_348) (fun _ h9 => h9) rfl dX4_nextToken_132 ?_
          refine lv_iconst (v := 1) hx hb dX4_nextToken_135 (by decide +kernel) ?_
          refine lv_iadd hx hb dX4_nextToken_136 ?_
          refine lv_topi (fun x137 ex137 => ?_)
          replace hr := vlS hr x137 ex137
          clear ex137
          obtain ⟨i21, hi21⟩ := hW.o4 hk_this
          refine va_put (D := (dC, dI)) (ci := 4) (v := .int x137) (ty := .int) (C := RX4) (T := TX4) (N := 9) hx hb hts inX4 tyX4 tyX4_ok nmX4 hown hK hP hD hS i21 hi21 rfl 4 (by decide) (hts (.fieldLink RX4 25 "SpellTurner$Reader" "at" "I") ic_348) (fun _ h9 => h9) rfl (by decide +kernel) rfl rfl (Nat.le_of_ble_eq_true rfl) dX4_nextToken_137 (fun H locs hP2 hD2 hS => ?_)
          obtain ⟨m137, w22, em137, hP, hD, hW⟩ : ∃ (z : Nat → Int32) (w : va_W), z = (va_up c52_G84 this x137) ∧ va_P (dC, dI) vwCl w H ∧ va_D A w ∧ LW w ad kk kd ln (va_up (va_up (va_up (va_up G 84 c52_G84) 86 m57) 88 m62) 84 z) P U V X O := ⟨_, _, rfl, hP2, hD2, hW.setG hD hi21 (by rw [hk_this]; decide) 84 x137 (by rw [hk_this]; rfl)⟩
          replace hr := vlS hr m137 em137
          clear em137
          refine lv_aload_n hx hb dX4_nextToken_140 rfl (lv_at hl 0 rfl) ?_
          refine lv_bipush (v := 16) hx hb dX4_nextToken_141 (by decide +kernel) ?_
          replace hr := b3S hr
          obtain ⟨c143_G84, c143_G87, c143_G88, hc143, hr⟩ := hr
          have hFc := fr_all hD hS hA
          obtain ⟨i23, hi23⟩ := hW.o4 hk_this
          refine va_callv (va_runV (As := [.int 16]) (rest := []) ⟨hx, hb, hml, hown, hts⟩ (m_X4_scanRun l dC dI kk ad H.size w22 (va_up (va_up (va_up (va_up G 84 c52_G84) 86 m57) 88 m62) 84 m137) P U V X O kd ln cnt this 16 hk_this hW hT c143_G84 c143_G87 c143_G88 hc143) (cwV 1 hts gc_RX4_X4_scanRun_186 rfl rfl rfl (by decide +kernel) ⟨Nat.le_of_ble_eq_true rfl, Nat.le_of_ble_eq_true rfl⟩) ⟨fun a U g mk q => by obtain ⟨q0, q1, qP, qK, qD⟩ := q; exact ⟨q0, q1, qP, va_K.moved (u := U) (U := U.calling g mk a) (Vm.Alike.refl U.vm) qK, qD⟩, va_recv hK hP (ci := 4) (q0 := i23) rfl hi23, fun U hU hW => ⟨rfl, by rw [hU], by rw [hU]; exact hP, va_K.moved hW.alike hK, hD.weaken (fun _ _ _ _ => trivial)⟩⟩ rfl rfl hl.1 rfl (lv_room (Nat.le_of_ble_eq_true rfl)) dX4_nextToken_143 ⟨Nat.le_of_ble_eq_true rfl, Nat.le_of_ble_eq_true rfl⟩) hS (fun q _ h => hFc q h) hFc (fun w24 t H1 locs ht hvm hw hB hz1 hk1 hS => ?_)
          obtain ⟨hW, hT⟩ := hw
          obtain ⟨hP1, hK1, hD1⟩ := hB
          rw [ht] at hP1
          obtain ⟨hP, hD⟩ := jn_all (w1 := w24) hFc hP1 hD1
          replace hP : va_P (dC, dI) vwCl w24 H1 := hP
          replace hD : va_D A w24 := hD
          clear hFc hP1 hK1 hD1 hk1 hz1 ht hvm
          generalize H1 = H at hP hS ⊢
          refine lv_aload_n hx hb dX4_nextToken_146 rfl (lv_at hl 0 rfl) ?_
          refine lv_aload_n hx hb dX4_nextToken_147 rfl (lv_at hl 0 rfl) ?_
          obtain ⟨i25, hi25⟩ := hW.o4 hk_this
          refine va_get (D := (dC, dI)) (ci := 4) (v := .int (c143_G84 this)) (C := RX4) (T := TX4) (N := 9) hx hb hts inX4 hown hK hP i25 hi25 rfl 4 (by decide) (hts (.fieldLink RX4 25 "SpellTurner$Reader" "at" "I") ic_348) (fun _ h9 => h9) rfl dX4_nextToken_148 ?_
          refine lv_aload_n hx hb dX4_nextToken_151 rfl (lv_at hl 0 rfl) ?_
          obtain ⟨i26, hi26⟩ := hW.o4 hk_this
          refine va_get (D := (dC, dI)) (ci := 4) (v := .int ((G 83) this)) (C := RX4) (T := TX4) (N := 9) hx hb hts inX4 hown hK hP i26 hi26 rfl 3 (by decide) (hts (.fieldLink RX4 22 "SpellTurner$Reader" "size" "I") ic_350) (fun _ h9 => h9) rfl dX4_nextToken_152 ?_
          replace hr := jnS hr
          obtain ⟨j177, hj177, hr⟩ := hr
          have Jj177 : ∀ (t177_0 : Int32) (ws : va_W) (H : Heap) (locs : List Loc) (ls : Array Slot), j177 t177_0 = some (c_G84, c_G85, c_G86, c_G87, c_G88) → LW ws ad kk kd ln (va_up (va_up (va_up (va_up G 84 c143_G84) 86 m57) 87 c143_G87) 88 c143_G88) P U V X O → TYP kd P O (V 0) cnt → va_P (dC, dI) vwCl ws H → va_D A ws → va_S A s.heap H locs → lv_has ls 1 [(0, .ref (ad this))] → W p l e ({ frames := 4, cells := 0, slots := 0, locals := 101 } : Room) s m args below meth c H locs 0 0 Q (F0 m 177 ls [.int t177_0, .ref (ad this)]) := by
            intro t177_0 ws H locs ls hr hW hT hP hD hS hl
            rw [hj177] at hr
            obtain ⟨i27, hi27⟩ := hW.o4 hk_this
            refine va_put (D := (dC, dI)) (ci := 4) (v := .int t177_0) (ty := .int) (C := RX4) (T := TX4) (N := 9) hx hb hts inX4 tyX4 tyX4_ok nmX4 hown hK hP hD hS i27 hi27 rfl 5 (by decide) (hts (.fieldLink RX4 28 "SpellTurner$Reader" "token" "I") ic_360) (fun _ h9 => h9) rfl (by decide +kernel) rfl rfl (Nat.le_of_ble_eq_true rfl) dX4_nextToken_177 (fun H locs hP2 hD2 hS => ?_)
            obtain ⟨m177, w28, em177, hP, hD, hW⟩ : ∃ (z : Nat → Int32) (w : va_W), z = (va_up (G 85) this t177_0) ∧ va_P (dC, dI) vwCl w H ∧ va_D A w ∧ LW w ad kk kd ln (va_up (va_up (va_up (va_up (va_up G 84 c143_G84) 86 m57) 87 c143_G87) 88 c143_G88) 85 z) P U V X O := ⟨_, _, rfl, hP2, hD2, hW.setG hD hi27 (by rw [hk_this]; decide) 85 t177_0 (by rw [hk_this]; rfl)⟩
            replace hr := vlS hr m177 em177
            clear em177
            refine lv_aload_n hx hb dX4_nextToken_180 rfl (lv_at hl 0 rfl) ?_
            refine lv_dup hx hb dX4_nextToken_181 rfl ?_
            obtain ⟨i29, hi29⟩ := hW.o4 hk_this
            refine va_get (D := (dC, dI)) (ci := 4) (v := .int (c143_G84 this)) (C := RX4) (T := TX4) (N := 9) hx hb hts inX4 hown hK hP i29 hi29 rfl 4 (by decide) (hts (.fieldLink RX4 25 "SpellTurner$Reader" "at" "I") ic_348) (fun _ h9 => h9) rfl dX4_nextToken_182 ?_
            refine lv_iconst (v := 1) hx hb dX4_nextToken_185 (by decide +kernel) ?_
            refine lv_iadd hx hb dX4_nextToken_186 ?_
            refine lv_topi (fun x187 ex187 => ?_)
            replace hr := vlS hr x187 ex187
            clear ex187
            obtain ⟨i30, hi30⟩ := hW.o4 hk_this
            refine va_put (D := (dC, dI)) (ci := 4) (v := .int x187) (ty := .int) (C := RX4) (T := TX4) (N := 9) hx hb hts inX4 tyX4 tyX4_ok nmX4 hown hK hP hD hS i30 hi30 rfl 4 (by decide) (hts (.fieldLink RX4 25 "SpellTurner$Reader" "at" "I") ic_348) (fun _ h9 => h9) rfl (by decide +kernel) rfl rfl (Nat.le_of_ble_eq_true rfl) dX4_nextToken_187 (fun H locs hP2 hD2 hS => ?_)
            obtain ⟨m187, w31, em187, hP, hD, hW⟩ : ∃ (z : Nat → Int32) (w : va_W), z = (va_up c143_G84 this x187) ∧ va_P (dC, dI) vwCl w H ∧ va_D A w ∧ LW w ad kk kd ln (va_up (va_up (va_up (va_up (va_up (va_up G 84 c143_G84) 86 m57) 87 c143_G87) 88 c143_G88) 85 m177) 84 z) P U V X O := ⟨_, _, rfl, hP2, hD2, hW.setG hD hi30 (by rw [hk_this]; decide) 84 x187 (by rw [hk_this]; rfl)⟩
            replace hr := vlS hr m187 em187
            clear em187
            refine lv_goto (tgt := 217) hx hb dX4_nextToken_190 (by decide) ?_
            have eG : (va_up (va_up (va_up (va_up (va_up (va_up G 84 c143_G84) 86 m57) 87 c143_G87) 88 c143_G88) 85 m177) 84 m187) = (va_up (va_up (va_up (va_up (va_up G 84 m187) 85 m177) 86 m57) 87 c143_G87) 88 c143_G88) := by
              funext k
              by_cases h84 : k = 84
              · subst h84; rfl
              by_cases h85 : k = 85
              · subst h85; rfl
              by_cases h86 : k = 86
              · subst h86; rfl
              by_cases h87 : k = 87
              · subst h87; rfl
              by_cases h88 : k = 88
              · subst h88; rfl
              · simp only [va_up, h84, h85, h86, h87, h88, if_false]
            rw [eG] at hW
            clear eG
            exact Jj217 m187 m177 c143_G87 c143_G88 w31 H _ ls hr hW hT hP hD hS (lv_sub hl [] rfl)
          replace hr := jnS hr
          obtain ⟨j176, hj176, hr⟩ := hr
          have Jj176 : ∀ (ws : va_W) (H : Heap) (locs : List Loc) (ls : Array Slot), j176 () = some (c_G84, c_G85, c_G86, c_G87, c_G88) → LW ws ad kk kd ln (va_up (va_up (va_up (va_up G 84 c143_G84) 86 m57) 87 c143_G87) 88 c143_G88) P U V X O → TYP kd P O (V 0) cnt → va_P (dC, dI) vwCl ws H → va_D A ws → va_S A s.heap H locs → lv_has ls 1 [(0, .ref (ad this))] → W p l e ({ frames := 4, cells := 0, slots := 0, locals := 101 } : Room) s m args below meth c H locs 0 0 Q (F0 m 176 ls [.ref (ad this)]) := by
            intro ws H locs ls hr hW hT hP hD hS hl
            rw [hj176] at hr
            refine lv_iconst (v := 4) hx hb dX4_nextToken_176 (by decide +kernel) ?_
            exact Jj177 4 ws H _ ls hr hW hT hP hD hS (lv_sub hl [0] rfl)
          refine lv_icmp_ge (tgt := 176) hx hb dX4_nextToken_155 (by decide) (fun c155 => ?_) (fun c155 => ?_)
          · replace hr := iteT c155 hr
            have eG : (va_up (va_up (va_up (va_up (va_up (va_up (va_up G 84 c52_G84) 86 m57) 88 m62) 84 m137) 84 c143_G84) 87 c143_G87) 88 c143_G88) = (va_up (va_up (va_up (va_up G 84 c143_G84) 86 m57) 87 c143_G87) 88 c143_G88) := by
              funext k
              by_cases h84 : k = 84
              · subst h84; rfl
              by_cases h86 : k = 86
              · subst h86; rfl
              by_cases h87 : k = 87
              · subst h87; rfl
              by_cases h88 : k = 88
              · subst h88; rfl
              · simp only [va_up, h84, h86, h87, h88, if_false]
            rw [eG] at hW
            clear eG
            exact Jj176 w24 H _ ls hr hW hT hP hD hS (lv_sub hl [0] rfl)
          · replace hr := iteF c155 hr
            refine lv_aload_n hx hb dX4_nextToken_158 rfl (lv_at hl 0 rfl) ?_
            obtain ⟨i32, hi32⟩ := hW.o4 hk_this
            replace hr := nnS hr
            obtain ⟨a159, hn159, hr⟩ := hr
            have hk_a159 : kd a159 = 100 := hT.1 82 _ _ hn159
            refine va_get (D := (dC, dI)) (ci := 4) (v := .ref (ad a159)) (C := RX4) (T := TX4) (N := 9) hx hb hts inX4 hown hK hP i32 hi32 rfl 2 (by decide) (hts (.fieldLink RX4 18 "SpellTurner$Reader" "text" "[B") ic_352) (fun _ h9 => h9) (congrArg (fun o => some (va_re ad o)) hn159) dX4_nextToken_159 ?_
            refine lv_aload_n hx hb dX4_nextToken_162 rfl (lv_at hl 0 rfl) ?_
            obtain ⟨i33, hi33⟩ := hW.o4 hk_this
            refine va_get (D := (dC, dI)) (ci := 4) (v := .int (c143_G84 this)) (C := RX4) (T := TX4) (N := 9) hx hb hts inX4 hown hK hP i33 hi33 rfl 4 (by decide) (hts (.fieldLink RX4 25 "SpellTurner$Reader" "at" "I") ic_348) (fun _ h9 => h9) rfl dX4_nextToken_163 ?_
            obtain ⟨i34, hi34⟩ := hW.v0 hk_a159
            replace hr := iteS hr
            obtain ⟨hi166, hr⟩ := hr
            refine va_bald (f := ((V 0) a159)) hx hb hK hP i34 0 hi34 rfl (inbV hi166) dX4_nextToken_166 ?_
            refine lv_bipush (v := 39) hx hb dX4_nextToken_167 (by decide +kernel) ?_
            refine lv_icmp_ne (tgt := 176) hx hb dX4_nextToken_169 (by decide) (fun c169 => ?_) (fun c169 => ?_)
            · replace hr := iteF c169 hr
              have eG : (va_up (va_up (va_up (va_up (va_up (va_up (va_up G 84 c52_G84) 86 m57) 88 m62) 84 m137) 84 c143_G84) 87 c143_G87) 88 c143_G88) = (va_up (va_up (va_up (va_up G 84 c143_G84) 86 m57) 87 c143_G87) 88 c143_G88) := by
                funext k
                by_cases h84 : k = 84
                · subst h84; rfl
                by_cases h86 : k = 86
                · subst h86; rfl
                by_cases h87 : k = 87
                · subst h87; rfl
                by_cases h88 : k = 88
                · subst h88; rfl
                · simp only [va_up, h84, h86, h87, h88, if_false]
              rw [eG] at hW
              clear eG
              exact Jj176 w24 H _ ls hr hW hT hP hD hS (lv_sub hl [0] rfl)
            · replace hr := iteT c169 hr
              refine lv_iconst (v := 2) hx hb dX4_nextToken_172 (by decide +kernel) ?_
              refine lv_goto (tgt := 177) hx hb dX4_nextToken_173 (by decide) ?_
              have eG : (va_up (va_up (va_up (va_up (va_up (va_up (va_up G 84 c52_G84) 86 m57) 88 m62) 84 m137) 84 c143_G84) 87 c143_G87) 88 c143_G88) = (va_up (va_up (va_up (va_up G 84 c143_G84) 86 m57) 87 c143_G87) 88 c143_G88) := by
                funext k
                by_cases h84 : k = 84
                · subst h84; rfl
                by_cases h86 : k = 86
                · subst h86; rfl
                by_cases h87 : k = 87
                · subst h87; rfl
                by_cases h88 : k = 88
                · subst h88; rfl
                · simp only [va_up, h84, h86, h87, h88, if_false]
              rw [eG] at hW
              clear eG
              exact Jj177 2 w24 H _ ls hr hW hT hP hD hS (lv_sub hl [0] rfl)
      · replace hr := iteT c95 hr
        refine lv_aload_n hx hb dX4_nextToken_98 rfl (lv_at hl 0 rfl) ?_
        refine lv_iconst (v := 3) hx hb dX4_nextToken_99 (by decide +kernel) ?_
        obtain ⟨i35, hi35⟩ := hW.o4 hk_this
        refine va_put (D := (dC, dI)) (ci := 4) (v := .int 3) (ty := .int) (C := RX4) (T := TX4) (N := 9) hx hb hts inX4 tyX4 tyX4_ok nmX4 hown hK hP hD hS i35 hi35 rfl 5 (by decide) (hts (.fieldLink RX4 28 "SpellTurner$Reader" "token" "I") ic_360) (fun _ h9 => h9) rfl (by decide +kernel) rfl rfl (Nat.le_of_ble_eq_true rfl) dX4_nextToken_100 (fun H locs hP2 hD2 hS => ?_)
        obtain ⟨m100, w36, em100, hP, hD, hW⟩ : ∃ (z : Nat → Int32) (w : va_W), z = (va_up (G 85) this 3) ∧ va_P (dC, dI) vwCl w H ∧ va_D A w ∧ LW w ad kk kd ln (va_up (va_up (va_up (va_up G 84 c52_G84) 86 m57) 88 m62) 85 z) P U V X O := ⟨_, _, rfl, hP2, hD2, hW.setG hD hi35 (by rw [hk_this]; decide) 85 3 (by rw [hk_this]; rfl)⟩
        replace hr := vlS hr m100 em100
        clear em100
        refine lv_aload_n hx hb dX4_nextToken_103 rfl (lv_at hl 0 rfl) ?_
        refine lv_dup hx hb dX4_nextToken_104 rfl ?_
        obtain ⟨i37, hi37⟩ := hW.o4 hk_this
        refine va_get (D := (dC, dI)) (ci := 4) (v := .int (c52_G84 this)) (C := RX4) (T := TX4) (N := 9) hx hb hts inX4 hown hK hP i37 hi37 rfl 4 (by decide) (hts (.fieldLink RX4 25 "SpellTurner$Reader" "at" "I") ic_348) (fun _ h9 => h9) rfl dX4_nextToken_105 ?_
        refine lv_iconst (v := 1) hx hb dX4_nextToken_108 (by decide +kernel) ?_
        refine lv_iadd hx hb dX4_nextToken_109 ?_
        refine lv_topi (fun x110 ex110 => ?_)
        replace hr := vlS hr x110 ex110
        clear ex110
        obtain ⟨i38, hi38⟩ := hW.o4 hk_this
        refine va_put (D := (dC, dI)) (ci := 4) (v := .int x110) (ty := .int) (C := RX4) (T := TX4) (N := 9) hx hb hts inX4 tyX4 tyX4_ok nmX4 hown hK hP hD hS i38 hi38 rfl 4 (by decide) (hts (.fieldLink RX4 25 "SpellTurner$Reader" "at" "I") ic_348) (fun _ h9 => h9) rfl (by decide +kernel) rfl rfl (Nat.le_of_ble_eq_true rfl) dX4_nextToken_110 (fun H locs hP2 hD2 hS => ?_)
        obtain ⟨m110, w39, em110, hP, hD, hW⟩ : ∃ (z : Nat → Int32) (w : va_W), z = (va_up c52_G84 this x110) ∧ va_P (dC, dI) vwCl w H ∧ va_D A w ∧ LW w ad kk kd ln (va_up (va_up (va_up (va_up (va_up G 84 c52_G84) 86 m57) 88 m62) 85 m100) 84 z) P U V X O := ⟨_, _, rfl, hP2, hD2, hW.setG hD hi38 (by rw [hk_this]; decide) 84 x110 (by rw [hk_this]; rfl)⟩
        replace hr := vlS hr m110 em110
        clear em110
        refine lv_goto (tgt := 217) hx hb dX4_nextToken_113 (by decide) ?_
        have eG : (va_up (va_up (va_up (va_up (va_up G 84 c52_G84) 86 m57) 88 m62) 85 m100) 84 m110) = (va_up (va_up (va_up (va_up (va_up G 84 m110) 85 m100) 86 m57) 87 (G 87)) 88 m62) := by
          funext k
          by_cases h84 : k = 84
          · subst h84; rfl
          by_cases h85 : k = 85
          · subst h85; rfl
          by_cases h86 : k = 86
          · subst h86; rfl
          by_cases h87 : k = 87
          · subst h87; rfl
          by_cases h88 : k = 88
          · subst h88; rfl
          · simp only [va_up, h84, h85, h86, h87, h88, if_false]
        rw [eG] at hW
        clear eG
        exact Jj217 m110 m100 (G 87) m62 w39 H _ ls hr hW hT hP hD hS (lv_sub hl [] rfl)
    · replace hr := iteF c73 hr
      refine lv_aload_n hx hb dX4_nextToken_76 rfl (lv_at hl 0 rfl) ?_
      refine lv_iconst (v := 0) hx hb dX4_nextToken_77 (by decide +kernel) ?_
      obtain ⟨i40, hi40⟩ := hW.o4 hk_this
      refine va_put (D := (dC, dI)) (ci := 4) (v := .int 0) (ty := .int) (C := RX4) (T := TX4) (N := 9) hx hb hts inX4 tyX4 tyX4_ok nmX4 hown hK hP hD hS i40 hi40 rfl 5 (by decide) (hts (.fieldLink RX4 28 "SpellTurner$Reader" "token" "I") ic_360) (fun _ h9 => h9) rfl (by decide +kernel) rfl rfl (Nat.le_of_ble_eq_true rfl) dX4_nextToken_78 (fun H locs hP2 hD2 hS => ?_)
      obtain ⟨m78, w41, em78, hP, hD, hW⟩ : ∃ (z : Nat → Int32) (w : va_W), z = (va_up (G 85) this 0) ∧ va_P (dC, dI) vwCl w H ∧ va_D A w ∧ LW w ad kk kd ln (va_up (va_up (va_up (va_up G 84 c52_G84) 86 m57) 88 m62) 85 z) P U V X O := ⟨_, _, rfl, hP2, hD2, hW.setG hD hi40 (by rw [hk_this]; decide) 85 0 (by rw [hk_this]; rfl)⟩
      replace hr := vlS hr m78 em78
      clear em78
      refine lv_goto (tgt := 217) hx hb dX4_nextToken_81 (by decide) ?_
      have eG : (va_up (va_up (va_up (va_up G 84 c52_G84) 86 m57) 88 m62) 85 m78) = (va_up (va_up (va_up (va_up (va_up G 84 c52_G84) 85 m78) 86 m57) 87 (G 87)) 88 m62) := by
        funext k
        by_cases h84 : k = 84
        · subst h84; rfl
        by_cases h85 : k = 85
        · subst h85; rfl
        by_cases h86 : k = 86
        · subst h86; rfl
        by_cases h87 : k = 87
        · subst h87; rfl
        by_cases h88 : k = 88
        · subst h88; rfl
        · simp only [va_up, h84, h85, h86, h87, h88, if_false]
      rw [eG] at hW
      clear eG
      exact Jj217 c52_G84 m78 (G 87) m62 w41 H _ ls hr hW hT hP hD hS (lv_sub hl [] rfl)
  have lp0 : ∀ (n0 : Nat), ∀ (d0_G84 : Nat → Int32) (ws : va_W) (H : Heap) (locs : List Loc) (ls : Array Slot), L_X4_nextToken_0 G P V ln this k52 n0 d0_G84 = some (c_G84, c_G85, c_G86, c_G87, c_G88) → LW ws ad kk kd ln (va_up G 84 d0_G84) P U V X O → TYP kd P O (V 0) cnt → va_P (dC, dI) vwCl ws H → va_D A ws → va_S A s.heap H locs → lv_has ls 1 [(0, .ref (ad this))] → W p l e ({ frames := 4, cells := 0, slots := 0, locals := 101 } : Room) s m args below meth c H locs 0 0 Q (F0 m 0 ls []) := by
    intro n0
    induction n0 with
    | zero => intro d0_G84 ws H locs ls hr hW hT hP hD hS hl; exact nomatch (show none = some (c_G84, c_G85, c_G86, c_G87, c_G88) from hr)
    | succ n0 ih0 =>
      intro d0_G84 ws H locs ls hr hW hT hP hD hS hl
      replace hr : B_X4_nextToken_0 G P V ln this k52 (L_X4_nextToken_0 G P V ln this k52 n0) d0_G84 = some (c_G84, c_G85, c_G86, c_G87, c_G88) := hr
      unfold B_X4_nextToken_0 at hr
      refine lv_aload_n hx hb dX4_nextToken_0 rfl (lv_at hl 0 rfl) ?_
      obtain ⟨i42, hi42⟩ := hW.o4 hk_this
      refine va_get (D := (dC, dI)) (ci := 4) (v := .int (d0_G84 this)) (C := RX4) (T := TX4) (N := 9) hx hb hts inX4 hown hK hP i42 hi42 rfl 4 (by decide) (hts (.fieldLink RX4 25 "SpellTurner$Reader" "at" "I") ic_348) (fun _ h9 => h9) rfl dX4_nextToken_1 ?_
      refine lv_aload_n hx hb dX4_nextToken_4 rfl (lv_at hl 0 rfl) ?_
      obtain ⟨i43, hi43⟩ := hW.o4 hk_this
      refine va_get (D := (dC, dI)) (ci := 4) (v := .int ((G 83) this)) (C := RX4) (T := TX4) (N := 9) hx hb hts inX4 hown hK hP i43 hi43 rfl 3 (by decide) (hts (.fieldLink RX4 22 "SpellTurner$Reader" "size" "I") ic_350) (fun _ h9 => h9) rfl dX4_nextToken_5 ?_
      refine lv_icmp_ge (tgt := 52) hx hb dX4_nextToken_8 (by decide) (fun c8 => ?_) (fun c8 => ?_)
      · replace hr := iteT c8 hr
        exact Jk52 d0_G84 ws H _ ls hr hW hT hP hD hS (lv_sub hl [0] rfl)
      · replace hr := iteF c8 hr
        refine lv_aload_n hx hb dX4_nextToken_11 rfl (lv_at hl 0 rfl) ?_
        obtain ⟨i44, hi44⟩ := hW.o4 hk_this
        replace hr := nnS hr
        obtain ⟨a12, hn12, hr⟩ := hr
        have hk_a12 : kd a12 = 100 := hT.1 82 _ _ hn12
        refine va_get (D := (dC, dI)) (ci := 4) (v := .ref (ad a12)) (C := RX4) (T := TX4) (N := 9) hx hb hts inX4 hown hK hP i44 hi44 rfl 2 (by decide) (hts (.fieldLink RX4 18 "SpellTurner$Reader" "text" "[B") ic_352) (fun _ h9 => h9) (congrArg (fun o => some (va_re ad o)) hn12) dX4_nextToken_12 ?_
        refine lv_aload_n hx hb dX4_nextToken_15 rfl (lv_at hl 0 rfl) ?_
        obtain ⟨i45, hi45⟩ := hW.o4 hk_this
        refine va_get (D := (dC, dI)) (ci := 4) (v := .int (d0_G84 this)) (C := RX4) (T := TX4) (N := 9) hx hb hts inX4 hown hK hP i45 hi45 rfl 4 (by decide) (hts (.fieldLink RX4 25 "SpellTurner$Reader" "at" "I") ic_348) (fun _ h9 => h9) rfl dX4_nextToken_16 ?_
        obtain ⟨i46, hi46⟩ := hW.v0 hk_a12
        replace hr := iteS hr
        obtain ⟨hi19, hr⟩ := hr
        refine va_bald (f := ((V 0) a12)) hx hb hK hP i46 0 hi46 rfl (inbV hi19) dX4_nextToken_19 ?_
        refine lv_bipush (v := 32) hx hb dX4_nextToken_20 (by decide +kernel) ?_
        replace hr := jnS hr
        obtain ⟨j39, hj39, hr⟩ := hr
        have Jj39 : ∀ (ws : va_W) (H : Heap) (locs : List Loc) (ls : Array Slot), j39 () = some (c_G84, c_G85, c_G86, c_G87, c_G88) → LW ws ad kk kd ln (va_up G 84 d0_G84) P U V X O → TYP kd P O (V 0) cnt → va_P (dC, dI) vwCl ws H → va_D A ws → va_S A s.heap H locs → lv_has ls 1 [(0, .ref (ad this))] → W p l e ({ frames := 4, cells := 0, slots := 0, locals := 101 } : Room) s m args below meth c H locs 0 0 Q (F0 m 39 ls []) := by
          intro ws H locs ls hr hW hT hP hD hS hl
          rw [hj39] at hr
          refine lv_aload_n hx hb dX4_nextToken_39 rfl (lv_at hl 0 rfl) ?_
          refine lv_dup hx hb dX4_nextToken_40 rfl ?_
          obtain ⟨i47, hi47⟩ := hW.o4 hk_this
          refine va_get (D := (dC, dI)) (ci := 4) (v := .int (d0_G84 this)) (C := RX4) (T := TX4) (N := 9) hx hb hts inX4 hown hK hP i47 hi47 rfl 4 (by decide) (hts (.fieldLink RX4 25 "SpellTurner$Reader" "at" "I") ic_348) (fun _ h9 => h9) rfl dX4_nextToken_41 ?_
          refine lv_iconst (v := 1) hx hb dX4_nextToken_44 (by decide +kernel) ?_
          refine lv_iadd hx hb dX4_nextToken_45 ?_
          refine lv_topi (fun x46 ex46 => ?_)
          replace hr := vlS hr x46 ex46
          clear ex46
          obtain ⟨i48, hi48⟩ := hW.o4 hk_this
          refine va_put (D := (dC, dI)) (ci := 4) (v := .int x46) (ty := .int) (C := RX4) (T := TX4) (N := 9) hx hb hts inX4 tyX4 tyX4_ok nmX4 hown hK hP hD hS i48 hi48 rfl 4 (by decide) (hts (.fieldLink RX4 25 "SpellTurner$Reader" "at" "I") ic_348) (fun _ h9 => h9) rfl (by decide +kernel) rfl rfl (Nat.le_of_ble_eq_true rfl) dX4_nextToken_46 (fun H locs hP2 hD2 hS => ?_)
          obtain ⟨m46, w49, em46, hP, hD, hW⟩ : ∃ (z : Nat → Int32) (w : va_W), z = (va_up d0_G84 this x46) ∧ va_P (dC, dI) vwCl w H ∧ va_D A w ∧ LW w ad kk kd ln (va_up (va_up G 84 d0_G84) 84 z) P U V X O := ⟨_, _, rfl, hP2, hD2, hW.setG hD hi48 (by rw [hk_this]; decide) 84 x46 (by rw [hk_this]; rfl)⟩
          replace hr := vlS hr m46 em46
          clear em46
          refine lv_goto (tgt := 0) hx hb dX4_nextToken_49 (by decide) ?_
          have eG : (va_up (va_up G 84 d0_G84) 84 m46) = (va_up G 84 m46) := by
            funext k
            by_cases h84 : k = 84
            · subst h84; rfl
            · simp only [va_up, h84, if_false]
          rw [eG] at hW
          clear eG
          exact ih0 m46 w49 H _ ls hr hW hT hP hD hS (lv_sub hl [0] rfl)
        refine lv_icmp_eq (tgt := 39) hx hb dX4_nextToken_22 (by decide) (fun c22 => ?_) (fun c22 => ?_)
        · replace hr := iteT c22 hr
          exact Jj39 ws H _ ls hr hW hT hP hD hS (lv_sub hl [0] rfl)
        · replace hr := iteF c22 hr
          refine lv_aload_n hx hb dX4_nextToken_25 rfl (lv_at hl 0 rfl) ?_
          obtain ⟨i50, hi50⟩ := hW.o4 hk_this
          replace hr := nnS hr
          obtain ⟨a26, hn26, hr⟩ := hr
          have hk_a26 : kd a26 = 100 := hT.1 82 _ _ hn26
          refine va_get (D := (dC, dI)) (ci := 4) (v := .ref (ad a26)) (C := RX4) (T := TX4) (N := 9) hx hb hts inX4 hown hK hP i50 hi50 rfl 2 (by decide) (hts (.fieldLink RX4 18 "SpellTurner$Reader" "text" "[B") ic_352) (fun _ h9 => h9) (congrArg (fun o => some (va_re ad o)) hn26) dX4_nextToken_26 ?_
          refine lv_aload_n hx hb dX4_nextToken_29 rfl (lv_at hl 0 rfl) ?_
          obtain ⟨i51, hi51⟩ := hW.o4 hk_this
          refine va_get (D := (dC, dI)) (ci := 4) (v := .int (d0_G84 this)) (C := RX4) (T := TX4) (N := 9) hx hb hts inX4 hown hK hP i51 hi51 rfl 4 (by decide) (hts (.fieldLink RX4 25 "SpellTurner$Reader" "at" "I") ic_348) (fun _ h9 => h9) rfl dX4_nextToken_30 ?_
          obtain ⟨i52, hi52⟩ := hW.v0 hk_a26
          replace hr := iteS hr
          obtain ⟨hi33, hr⟩ := hr
          refine va_bald (f := ((V 0) a26)) hx hb hK hP i52 0 hi52 rfl (inbV hi33) dX4_nextToken_33 ?_
          refine lv_bipush (v := 10) hx hb dX4_nextToken_34 (by decide +kernel) ?_
          refine lv_icmp_ne (tgt := 52) hx hb dX4_nextToken_36 (by decide) (fun c36 => ?_) (fun c36 => ?_)
          · replace hr := iteF c36 hr
            exact Jk52 d0_G84 ws H _ ls hr hW hT hP hD hS (lv_sub hl [0] rfl)
          · replace hr := iteT c36 hr
            exact Jj39 ws H _ ls hr hW hT hP hD hS (lv_sub hl [0] rfl)
  have eG : G = (va_up G 84 (G 84)) := by
    funext k
    by_cases h84 : k = 84
    · subst h84; rfl
    · simp only [va_up, h84, if_false]
  rw [eG] at hW
  clear eG
  exact lp0 NN (G 84) ws H _ ls hr hW hT hP hD hS (lv_sub hl [0] rfl)
set_option maxHeartbeats 4000000 in
set_option maxRecDepth 100000 in
theorem m_X4_nextToken (l : Launch) (dC : Nat → ClassId) (dI : Nat → Nat → Nat) (kk : Nat → ClassId) (ad : Nat → Nat) (sz : Nat) (ws : va_W) (G : Nat → Nat → Int32) (P : Nat → Nat → Option Nat) (U : Nat → Nat → Int64) (V : Nat → Nat → Nat → Int32) (X : Nat → Nat → Nat → Int64) (O : Nat → Nat → Nat → Option Nat) (kd : Nat → Nat) (ln : Nat → Nat) (cnt : Nat) (this : Nat) (hk_this : kd this = 5) (hW : LW ws ad kk kd ln G P U V X O) (hT : TYP kd P O (V 0) cnt) (c_G84 : Nat → Int32) (c_G85 : Nat → Int32) (c_G86 : Nat → Int32) (c_G87 : Nat → Int32) (c_G88 : Nat → Int32) (hr : f_X4_nextToken G P U V X O kd ln cnt this = some (c_G84, c_G85, c_G86, c_G87, c_G88)) : Met l yX4_nextToken vmX4_nextToken ({ frames := 4, cells := 0, slots := 0, locals := 101 } : Room) (va_Pc [.ref (ad this)] (fun U => U.heap.size = sz ∧ va_P (dC, dI) vwCl ws U.heap ∧ va_K (dC, dI) vwCl (cT kk) U ∧ va_D (fun _ => True) ws)) (va_Qv (fun w => LW w ad kk kd ln (va_up (va_up (va_up (va_up (va_up G 84 c_G84) 85 c_G85) 86 c_G86) 87 c_G87) 88 c_G88) P U V X O ∧ TYP kd P O (V 0) cnt) (fun w t => va_P (dC, dI) vwCl w t.heap ∧ va_K (dC, dI) vwCl (cT kk) t ∧ va_D (va_A ws sz) w) (va_A ws sz)) 0 0 (va_A ws sz) := by
  refine Met.ofW (cc := cX4_nextToken) (maxL := 1) (ret := none) (by decide) rfl ?_
  intro p e s m args below meth c s₁ B hml hv
  obtain ⟨rfl, hsz, hP, hK, hD0⟩ := hv
  have hx := B.exec
  have hb := B.bytes
  have hrt := B.returns
  have hts := atoms_spec (ws := vmX4_nextToken) B.pre
  have hown : s.vm.findClass RX4 = some m.cls := findClass_of_methodNamed B.named
  subst hsz
  have hD := hD0.self (sz := s.heap.size)
  generalize hAe : va_A ws s.heap.size = A at hD ⊢
  have hA : ∀ q : Nat, s.heap.size ≤ q → A q := fun q h => by rw [← hAe]; exact Or.inr h
  have hS : va_S A s.heap s.heap [] := va_S.rf
  have hl := lv_entry ([.ref (ad this)]) (n := 1) (Nat.le_of_ble_eq_true rfl)
  rw [lg_entry_eq]
  generalize (lg_sl ([.ref (ad this)]) ++ List.replicate (1 - (lg_sl ([.ref (ad this)])).length) Slot.unset).toArray = ls at hl ⊢
  exact bm_X4_nextToken this hk_this c_G84 c_G85 c_G86 c_G87 c_G88 hr hx hb hml hown hts hA hK hW hT hP hD hS hl (fun pc ls c_G84z c_G85z c_G86z c_G87z c_G88z ws H locs he hd hW hT hP hD hS => by cases he; exact W.vret hx hb hrt (fun t ht hW9 => ⟨⟨ws, rfl, ⟨hW, hT⟩, by rw [ht]; exact hP, va_K.moved hW9.alike hK, hD⟩, hS.F ht⟩) hS.2.2 hd)
set_option maxHeartbeats 4000000 in
set_option maxRecDepth 100000 in
theorem bm_X4_wordIs {p : Program} {l : Launch} {e : Env} {s : State} {m : MethodId} {args : Array Value} {below : List Frame} {meth : Method} {c : Code} {Q : State → Prop} {A : Nat → Prop} {dC : Nat → ClassId} {dI : Nat → Nat → Nat} {kk : Nat → ClassId} {ad : Nat → Nat} {ws : va_W} {G : Nat → Nat → Int32} {P : Nat → Nat → Option Nat} {U : Nat → Nat → Int64} {V : Nat → Nat → Nat → Int32} {X : Nat → Nat → Nat → Int64} {O : Nat → Nat → Nat → Option Nat} {kd : Nat → Nat} {ln : Nat → Nat} {cnt : Nat} {H : Heap} {locs : List Loc} {ls : Array Slot} (this : Nat) (p0 : Nat) (hk_this : kd this = 5) (hs_p0 : p0 < 10) (r : Int32) (hr : f_X4_wordIs G P U V X O kd ln cnt this p0 = some r) (hx : p.tables.exec = Jvm.exec) (hb : c.code = cX4_wordIs) (hml : c.maxLocals = 3) (hown : s.vm.findClass RX4 = some m.cls) (hts : ∀ w ∈ vmX4_wordIs, w.before args s = true) (hA : ∀ q : Nat, s.heap.size ≤ q → A q) (hK : va_K (dC, dI) vwCl (cT kk) s) {adK adV : Nat → Nat} (hSE : SE adK adV A s) (hW : LW ws ad kk kd ln G P U V X O) (hT : TYP kd P O (V 0) cnt) (hP : va_P (dC, dI) vwCl ws H) (hD : va_D A ws) (hS : va_S A s.heap H locs) (hl : lv_has ls 3 [(0, .ref (ad this)), (1, .ref (adK p0))])
    (K : ∀ (pc : Nat) (ls : Array Slot) (rz : Int32) (ws : va_W) (H : Heap) (locs : List Loc), some rz = some r → is01 rz → decode cX4_wordIs pc = .ok (.ireturn, 1) → LW ws ad kk kd ln G P U V X O → TYP kd P O (V 0) cnt → va_P (dC, dI) vwCl ws H → va_D A ws → va_S A s.heap H locs → W p l e ({ frames := 6, cells := 0, slots := 0, locals := 340 } : Room) s m args below meth c H locs 0 0 Q (F0 m pc ls [.int rz])) : W p l e ({ frames := 6, cells := 0, slots := 0, locals := 340 } : Room) s m args below meth c H locs 0 0 Q (F0 m 0 ls []) := by
  unfold f_X4_wordIs at hr
  refine lv_aload_n hx hb dX4_wordIs_0 rfl (lv_at hl 0 rfl) ?_
  obtain ⟨i1, hi1⟩ := hW.o4 hk_this
  refine va_get (D := (dC, dI)) (ci := 4) (v := .int ((G 85) this)) (C := RX4) (T := TX4) (N := 9) hx hb hts inX4 hown hK hP i1 hi1 rfl 5 (by decide) (hts (.fieldLink RX4 28 "SpellTurner$Reader" "token" "I") ic_360) (fun _ h9 => h9) rfl dX4_wordIs_1 ?_
  refine lv_iconst (v := 1) hx hb dX4_wordIs_4 (by decide +kernel) ?_
  replace hr := jnS hr
  obtain ⟨j19, hj19, hr⟩ := hr
  have Jj19 : ∀ (ws : va_W) (H : Heap) (locs : List Loc) (ls : Array Slot), j19 () = some r → LW ws ad kk kd ln G P U V X O → TYP kd P O (V 0) cnt → va_P (dC, dI) vwCl ws H → va_D A ws → va_S A s.heap H locs → lv_has ls 3 [] → W p l e ({ frames := 6, cells := 0, slots := 0, locals := 340 } : Room) s m args below meth c H locs 0 0 Q (F0 m 19 ls []) := by
    intro ws H locs ls hr hW hT hP hD hS hl
    rw [hj19] at hr
    refine lv_iconst (v := 0) hx hb dX4_wordIs_19 (by decide +kernel) ?_
    exact K 20 ls _ ws H _ hr (by decide) dX4_wordIs_20 hW hT hP hD hS
  refine lv_icmp_ne (tgt := 19) hx hb dX4_wordIs_5 (by decide) (fun c5 => ?_) (fun c5 => ?_)
  · replace hr := iteF c5 hr
    exact Jj19 ws H _ ls hr hW hT hP hD hS (lv_sub hl [] rfl)
  · replace hr := iteT c5 hr
    refine lv_aload_n hx hb dX4_wordIs_8 rfl (lv_at hl 0 rfl) ?_
    obtain ⟨i2, hi2⟩ := hW.o4 hk_this
    refine va_get (D := (dC, dI)) (ci := 4) (v := .int ((G 88) this)) (C := RX4) (T := TX4) (N := 9) hx hb hts inX4 hown hK hP i2 hi2 rfl 8 (by decide) (hts (.fieldLink RX4 37 "SpellTurner$Reader" "length" "I") ic_351) (fun _ h9 => h9) rfl dX4_wordIs_9 ?_
    refine lv_aload_n hx hb dX4_wordIs_12 rfl (lv_at hl 1 rfl) ?_
    refine va_calli (va_runV (As := []) (rest := [.int ((G 88) this)]) ⟨hx, hb, hml, hown, hts⟩ (j_length l adK adV p0 hs_p0) (cwV 0 hts gc_RX4_J0_length_8abf5_177 rfl rfl rfl (by decide +kernel) ⟨Nat.le_of_ble_eq_true rfl, Nat.le_of_ble_eq_true rfl⟩) ⟨fun a U g mk q => ⟨q.1, q.2.calling⟩, vk_recv hSE.1 (i := p0) hs_p0 hS, fun U hU hW => ⟨rfl, (hSE.warm hS hU hW).nf⟩⟩ rfl rfl hl.1 rfl (lv_room (Nat.le_of_ble_eq_true rfl)) dX4_wordIs_13 ⟨Nat.le_of_ble_eq_true rfl, Nat.le_of_ble_eq_true rfl⟩) hS (fun q _ h => h.elim) (fun q h => h.elim) (fun r u t H1 locs ht hvm hw hB hz1 hk1 hS => ?_)
    subst hw
    replace hP : va_P (dC, dI) vwCl ws H1 := hP.kept (fun k q hk => hk1 q.1 (hP k q hk).lt (fun h => h))
    clear hk1 hz1 ht hvm hB
    generalize H1 = H at hP hS ⊢
    refine lv_icmp_eq (tgt := 21) hx hb dX4_wordIs_16 (by decide) (fun c16 => ?_) (fun c16 => ?_)
    · replace hr := iteT c16 hr
      refine lv_iconst (v := 0) hx hb dX4_wordIs_21 (by decide +kernel) ?_
      refine lv_istore_n (lv' := [(2, .int 0), (0, .ref (ad this)), (1, .ref (adK p0))]) hx hb dX4_wordIs_22 rfl hl (by decide) rfl (fun ls hl => ?_)
      have lp23 : ∀ (n23 : Nat), ∀ (y23_2 : Int32) (ws : va_W) (H : Heap) (locs : List Loc) (ls : Array Slot), L_X4_wordIs_23 G P V ln this p0 n23 y23_2 = some r → LW ws ad kk kd ln G P U V X O → TYP kd P O (V 0) cnt → va_P (dC, dI) vwCl ws H → va_D A ws → va_S A s.heap H locs → lv_has ls 3 [(0, .ref (ad this)), (1, .ref (adK p0)), (2, .int y23_2)] → W p l e ({ frames := 6, cells := 0, slots := 0, locals := 340 } : Room) s m args below meth c H locs 0 0 Q (F0 m 23 ls []) := by
        intro n23
        induction n23 with
        | zero => intro y23_2 ws H locs ls hr hW hT hP hD hS hl; exact nomatch (show none = some r from hr)
        | succ n23 ih23 =>
          intro y23_2 ws H locs ls hr hW hT hP hD hS hl
          replace hr : B_X4_wordIs_23 G P V ln this p0 (L_X4_wordIs_23 G P V ln this p0 n23) y23_2 = some r := hr
          unfold B_X4_wordIs_23 at hr
          refine lv_iload_n hx hb dX4_wordIs_23 rfl (lv_at hl 2 rfl) ?_
          refine lv_aload_n hx hb dX4_wordIs_24 rfl (lv_at hl 0 rfl) ?_
          obtain ⟨i3, hi3⟩ := hW.o4 hk_this
          refine va_get (D := (dC, dI)) (ci := 4) (v := .int ((G 88) this)) (C := RX4) (T := TX4) (N := 9) hx hb hts inX4 hown hK hP i3 hi3 rfl 8 (by decide) (hts (.fieldLink RX4 37 "SpellTurner$Reader" "length" "I") ic_351) (fun _ h9 => h9) rfl dX4_wordIs_25 ?_
          refine lv_icmp_ge (tgt := 58) hx hb dX4_wordIs_28 (by decide) (fun c28 => ?_) (fun c28 => ?_)
          · replace hr := iteT c28 hr
            refine lv_iconst (v := 1) hx hb dX4_wordIs_58 (by decide +kernel) ?_
            exact K 59 ls _ ws H _ hr (by decide) dX4_wordIs_59 hW hT hP hD hS
          · replace hr := iteF c28 hr
            refine lv_aload_n hx hb dX4_wordIs_31 rfl (lv_at hl 0 rfl) ?_
            obtain ⟨i4, hi4⟩ := hW.o4 hk_this
            replace hr := nnS hr
            obtain ⟨a32, hn32, hr⟩ := hr
            have hk_a32 : kd a32 = 100 := hT.1 82 _ _ hn32
            refine va_get (D := (dC, dI)) (ci := 4) (v := .ref (ad a32)) (C := RX4) (T := TX4) (N := 9) hx hb hts inX4 hown hK hP i4 hi4 rfl 2 (by decide) (hts (.fieldLink RX4 18 "SpellTurner$Reader" "text" "[B") ic_352) (fun _ h9 => h9) (congrArg (fun o => some (va_re ad o)) hn32) dX4_wordIs_32 ?_
            refine lv_aload_n hx hb dX4_wordIs_35 rfl (lv_at hl 0 rfl) ?_
            obtain ⟨i5, hi5⟩ := hW.o4 hk_this
            refine va_get (D := (dC, dI)) (ci := 4) (v := .int ((G 87) this)) (C := RX4) (T := TX4) (N := 9) hx hb hts inX4 hown hK hP i5 hi5 rfl 7 (by decide) (hts (.fieldLink RX4 34 "SpellTurner$Reader" "start" "I") ic_349) (fun _ h9 => h9) rfl dX4_wordIs_36 ?_
            refine lv_iload_n hx hb dX4_wordIs_39 rfl (lv_at hl 2 rfl) ?_
            refine lv_iadd hx hb dX4_wordIs_40 ?_
            obtain ⟨i6, hi6⟩ := hW.v0 hk_a32
            replace hr := iteS hr
            obtain ⟨hi41, hr⟩ := hr
            refine va_bald (f := ((V 0) a32)) hx hb hK hP i6 0 hi6 rfl (inbV hi41) dX4_wordIs_41 ?_
            refine lv_aload_n hx hb dX4_wordIs_42 rfl (lv_at hl 1 rfl) ?_
            refine lv_iload_n hx hb dX4_wordIs_43 rfl (lv_at hl 2 rfl) ?_
            replace hr := iteS hr
            obtain ⟨hi44, hr⟩ := hr
            refine va_calli (va_runV (As := [.int y23_2]) (rest := [.int (((V 0) a32) (Int32.toNatClampNeg (((G 87) this) + y23_2)))]) ⟨hx, hb, hml, hown, hts⟩ (j_charAt l adK adV p0 hs_p0 y23_2 hi44) (cwV 1 hts gc_RX4_J0_charAt_5068e_182 rfl rfl rfl (by decide +kernel) ⟨Nat.le_of_ble_eq_true rfl, Nat.le_of_ble_eq_true rfl⟩) ⟨fun a U g mk q => ⟨q.1, q.2.calling⟩, vk_recv hSE.1 (i := p0) hs_p0 hS, fun U hU hW => ⟨rfl, (hSE.warm hS hU hW).nf⟩⟩ rfl rfl hl.1 rfl (lv_room (Nat.le_of_ble_eq_true rfl)) dX4_wordIs_44 ⟨Nat.le_of_ble_eq_true rfl, Nat.le_of_ble_eq_true rfl⟩) hS (fun q _ h => h.elim) (fun q h => h.elim) (fun r u t H1 locs ht hvm hw hB hz1 hk1 hS => ?_)
            subst hw
            replace hP : va_P (dC, dI) vwCl ws H1 := hP.kept (fun k q hk => hk1 q.1 (hP k q hk).lt (fun h => h))
            clear hk1 hz1 ht hvm hB
            generalize H1 = H at hP hS ⊢
            refine lv_icmp_eq (tgt := 52) hx hb dX4_wordIs_47 (by decide) (fun c47 => ?_) (fun c47 => ?_)
            · replace hr := iteT c47 hr
              refine lv_iinc (v := (y23_2 + 1)) (lv' := [(2, .int (y23_2 + 1)), (0, .ref (ad this)), (1, .ref (adK p0))]) hx hb dX4_wordIs_52 hl (k := 2) rfl rfl (by decide) rfl (fun ls hl => ?_)
              refine lv_goto (tgt := 23) hx hb dX4_wordIs_55 (by decide) ?_
              exact ih23 (y23_2 + 1) ws H _ ls hr hW hT hP hD hS (lv_sub hl [1, 2, 0] rfl)
            · replace hr := iteF c47 hr
              refine lv_iconst (v := 0) hx hb dX4_wordIs_50 (by decide +kernel) ?_
              exact K 51 ls _ ws H _ hr (by decide) dX4_wordIs_51 hW hT hP hD hS
      exact lp23 NN 0 ws H _ ls hr hW hT hP hD hS (lv_sub hl [1, 2, 0] rfl)
    · replace hr := iteF c16 hr
      exact Jj19 ws H _ ls hr hW hT hP hD hS (lv_sub hl [] rfl)
set_option maxHeartbeats 4000000 in
set_option maxRecDepth 100000 in
theorem m_X4_wordIs (l : Launch) (dC : Nat → ClassId) (dI : Nat → Nat → Nat) (adK adV : Nat → Nat) (kk : Nat → ClassId) (ad : Nat → Nat) (sz : Nat) (ws : va_W) (G : Nat → Nat → Int32) (P : Nat → Nat → Option Nat) (U : Nat → Nat → Int64) (V : Nat → Nat → Nat → Int32) (X : Nat → Nat → Nat → Int64) (O : Nat → Nat → Nat → Option Nat) (kd : Nat → Nat) (ln : Nat → Nat) (cnt : Nat) (this : Nat) (p0 : Nat) (hk_this : kd this = 5) (hs_p0 : p0 < 10) (hW : LW ws ad kk kd ln G P U V X O) (hT : TYP kd P O (V 0) cnt) (r : Int32) (hr : f_X4_wordIs G P U V X O kd ln cnt this p0 = some r) : Met l yX4_wordIs vmX4_wordIs ({ frames := 6, cells := 0, slots := 0, locals := 340 } : Room) (va_Pc [.ref (ad this), .ref (adK p0)] (fun U => U.heap.size = sz ∧ va_P (dC, dI) vwCl ws U.heap ∧ va_K (dC, dI) vwCl (cT kk) U ∧ va_D (fun _ => True) ws ∧ SE adK adV (va_A ws sz) U)) (va_Qi (fun (rz : Int32) (w : va_W) => rz = r ∧ LW w ad kk kd ln G P U V X O ∧ TYP kd P O (V 0) cnt) (fun w t => va_P (dC, dI) vwCl w t.heap ∧ va_K (dC, dI) vwCl (cT kk) t ∧ va_D (va_A ws sz) w) (va_A ws sz)) 0 0 (va_A ws sz) := by
  refine Met.ofW (cc := cX4_wordIs) (maxL := 3) (ret := (some .boolean)) (by decide) rfl ?_
  intro p e s m args below meth c s₁ B hml hv
  obtain ⟨rfl, hsz, hP, hK, hD0, hSE⟩ := hv
  have hx := B.exec
  have hb := B.bytes
  have hrt := B.returns
  have hts := atoms_spec (ws := vmX4_wordIs) B.pre
  have hown : s.vm.findClass RX4 = some m.cls := findClass_of_methodNamed B.named
  subst hsz
  have hD := hD0.self (sz := s.heap.size)
  generalize hAe : va_A ws s.heap.size = A at hD hSE ⊢
  have hA : ∀ q : Nat, s.heap.size ≤ q → A q := fun q h => by rw [← hAe]; exact Or.inr h
  have hS : va_S A s.heap s.heap [] := va_S.rf
  have hl := lv_entry ([.ref (ad this), .ref (adK p0)]) (n := 3) (Nat.le_of_ble_eq_true rfl)
  rw [lg_entry_eq]
  generalize (lg_sl ([.ref (ad this), .ref (adK p0)]) ++ List.replicate (3 - (lg_sl ([.ref (ad this), .ref (adK p0)])).length) Slot.unset).toArray = ls at hl ⊢
  exact bm_X4_wordIs this p0 hk_this hs_p0 r hr hx hb hml hown hts hA hK hSE hW hT hP hD hS hl (fun pc ls rz ws H locs he hz hd hW hT hP hD hS => by cases he; exact W.zret (v := r) hx hb hrt (z_nb hz) (fun t ht hW9 => ⟨⟨r, ws, rfl, ⟨rfl, hW, hT⟩, by rw [ht]; exact hP, va_K.moved hW9.alike hK, hD⟩, hS.F ht⟩) hS.2.2 hd)
set_option maxHeartbeats 4000000 in
set_option maxRecDepth 100000 in
theorem bm_X4_blame {p : Program} {l : Launch} {e : Env} {s : State} {m : MethodId} {args : Array Value} {below : List Frame} {meth : Method} {c : Code} {Q : State → Prop} {A : Nat → Prop} {dC : Nat → ClassId} {dI : Nat → Nat → Nat} {kk : Nat → ClassId} {ad : Nat → Nat} {ws : va_W} {G : Nat → Nat → Int32} {P : Nat → Nat → Option Nat} {U : Nat → Nat → Int64} {V : Nat → Nat → Nat → Int32} {X : Nat → Nat → Nat → Int64} {O : Nat → Nat → Nat → Option Nat} {kd : Nat → Nat} {ln : Nat → Nat} {cnt : Nat} {H : Heap} {locs : List Loc} {ls : Array Slot} (this : Nat) (p0 : Int32) (hk_this : kd this = 5) (r : Int32) (c_G80 : Nat → Int32) (c_G81 : Nat → Int32) (hr : f_X4_blame G P U V X O kd ln cnt this p0 = some (r, c_G80, c_G81)) (hx : p.tables.exec = Jvm.exec) (hb : c.code = cX4_blame) (hml : c.maxLocals = 2) (hown : s.vm.findClass RX4 = some m.cls) (hts : ∀ w ∈ vmX4_blame, w.before args s = true) (hA : ∀ q : Nat, s.heap.size ≤ q → A q) (hK : va_K (dC, dI) vwCl (cT kk) s) (hW : LW ws ad kk kd ln G P U V X O) (hT : TYP kd P O (V 0) cnt) (hP : va_P (dC, dI) vwCl ws H) (hD : va_D A ws) (hS : va_S A s.heap H locs) (hl : lv_has ls 2 [(0, .ref (ad this)), (1, .int p0)])
    (K : ∀ (pc : Nat) (ls : Array Slot) (rz : Int32) (c_G80z : Nat → Int32) (c_G81z : Nat → Int32) (ws : va_W) (H : Heap) (locs : List Loc), some (rz, c_G80z, c_G81z) = some (r, c_G80, c_G81) → is01 rz → decode cX4_blame pc = .ok (.ireturn, 1) → LW ws ad kk kd ln (va_up (va_up G 80 c_G80z) 81 c_G81z) P U V X O → TYP kd P O (V 0) cnt → va_P (dC, dI) vwCl ws H → va_D A ws → va_S A s.heap H locs → W p l e ({ frames := 2, cells := 0, slots := 0, locals := 60 } : Room) s m args below meth c H locs 0 0 Q (F0 m pc ls [.int rz])) : W p l e ({ frames := 2, cells := 0, slots := 0, locals := 60 } : Room) s m args below meth c H locs 0 0 Q (F0 m 0 ls []) := by
  unfold f_X4_blame at hr
  refine lv_aload_n hx hb dX4_blame_0 rfl (lv_at hl 0 rfl) ?_
  refine lv_iload_n hx hb dX4_blame_1 rfl (lv_at hl 1 rfl) ?_
  obtain ⟨i1, hi1⟩ := hW.o4 hk_this
  refine va_put (D := (dC, dI)) (ci := 4) (v := .int p0) (ty := .int) (C := RX4) (T := TX4) (N := 9) hx hb hts inX4 tyX4 tyX4_ok nmX4 hown hK hP hD hS i1 hi1 rfl 0 (by decide) (hts (.fieldLink RX4 9 "SpellTurner$Reader" "faultKind" "I") ic_370) (fun _ h9 => h9) rfl (by decide +kernel) rfl rfl (Nat.le_of_ble_eq_true rfl) dX4_blame_2 (fun H locs hP2 hD2 hS => ?_)
  obtain ⟨m2, w2, em2, hP, hD, hW⟩ : ∃ (z : Nat → Int32) (w : va_W), z = (va_up (G 80) this p0) ∧ va_P (dC, dI) vwCl w H ∧ va_D A w ∧ LW w ad kk kd ln (va_up G 80 z) P U V X O := ⟨_, _, rfl, hP2, hD2, hW.setG hD hi1 (by rw [hk_this]; decide) 80 p0 (by rw [hk_this]; rfl)⟩
  replace hr := vlS hr m2 em2
  clear em2
  refine lv_aload_n hx hb dX4_blame_5 rfl (lv_at hl 0 rfl) ?_
  refine lv_aload_n hx hb dX4_blame_6 rfl (lv_at hl 0 rfl) ?_
  obtain ⟨i3, hi3⟩ := hW.o4 hk_this
  refine va_get (D := (dC, dI)) (ci := 4) (v := .int ((G 86) this)) (C := RX4) (T := TX4) (N := 9) hx hb hts inX4 hown hK hP i3 hi3 rfl 6 (by decide) (hts (.fieldLink RX4 31 "SpellTurner$Reader" "place" "I") ic_355) (fun _ h9 => h9) rfl dX4_blame_7 ?_
  refine lv_topi (fun x10 ex10 => ?_)
  replace hr := vlS hr x10 ex10
  clear ex10
  obtain ⟨i4, hi4⟩ := hW.o4 hk_this
  refine va_put (D := (dC, dI)) (ci := 4) (v := .int x10) (ty := .int) (C := RX4) (T := TX4) (N := 9) hx hb hts inX4 tyX4 tyX4_ok nmX4 hown hK hP hD hS i4 hi4 rfl 1 (by decide) (hts (.fieldLink RX4 15 "SpellTurner$Reader" "faultPlace" "I") ic_371) (fun _ h9 => h9) rfl (by decide +kernel) rfl rfl (Nat.le_of_ble_eq_true rfl) dX4_blame_10 (fun H locs hP2 hD2 hS => ?_)
  obtain ⟨m10, w5, em10, hP, hD, hW⟩ : ∃ (z : Nat → Int32) (w : va_W), z = (va_up (G 81) this x10) ∧ va_P (dC, dI) vwCl w H ∧ va_D A w ∧ LW w ad kk kd ln (va_up (va_up G 80 m2) 81 z) P U V X O := ⟨_, _, rfl, hP2, hD2, hW.setG hD hi4 (by rw [hk_this]; decide) 81 x10 (by rw [hk_this]; rfl)⟩
  replace hr := vlS hr m10 em10
  clear em10
  refine lv_iconst (v := 0) hx hb dX4_blame_13 (by decide +kernel) ?_
  exact K 14 ls _ _ _ w5 H _ hr (by decide) dX4_blame_14 hW hT hP hD hS
set_option maxHeartbeats 4000000 in
set_option maxRecDepth 100000 in
theorem m_X4_blame (l : Launch) (dC : Nat → ClassId) (dI : Nat → Nat → Nat) (kk : Nat → ClassId) (ad : Nat → Nat) (sz : Nat) (ws : va_W) (G : Nat → Nat → Int32) (P : Nat → Nat → Option Nat) (U : Nat → Nat → Int64) (V : Nat → Nat → Nat → Int32) (X : Nat → Nat → Nat → Int64) (O : Nat → Nat → Nat → Option Nat) (kd : Nat → Nat) (ln : Nat → Nat) (cnt : Nat) (this : Nat) (p0 : Int32) (hk_this : kd this = 5) (hW : LW ws ad kk kd ln G P U V X O) (hT : TYP kd P O (V 0) cnt) (r : Int32) (c_G80 : Nat → Int32) (c_G81 : Nat → Int32) (hr : f_X4_blame G P U V X O kd ln cnt this p0 = some (r, c_G80, c_G81)) : Met l yX4_blame vmX4_blame ({ frames := 2, cells := 0, slots := 0, locals := 60 } : Room) (va_Pc [.ref (ad this), .int p0] (fun U => U.heap.size = sz ∧ va_P (dC, dI) vwCl ws U.heap ∧ va_K (dC, dI) vwCl (cT kk) U ∧ va_D (fun _ => True) ws)) (va_Qi (fun (rz : Int32) (w : va_W) => rz = r ∧ LW w ad kk kd ln (va_up (va_up G 80 c_G80) 81 c_G81) P U V X O ∧ TYP kd P O (V 0) cnt) (fun w t => va_P (dC, dI) vwCl w t.heap ∧ va_K (dC, dI) vwCl (cT kk) t ∧ va_D (va_A ws sz) w) (va_A ws sz)) 0 0 (va_A ws sz) := by
  refine Met.ofW (cc := cX4_blame) (maxL := 2) (ret := (some .boolean)) (by decide) rfl ?_
  intro p e s m args below meth c s₁ B hml hv
  obtain ⟨rfl, hsz, hP, hK, hD0⟩ := hv
  have hx := B.exec
  have hb := B.bytes
  have hrt := B.returns
  have hts := atoms_spec (ws := vmX4_blame) B.pre
  have hown : s.vm.findClass RX4 = some m.cls := findClass_of_methodNamed B.named
  subst hsz
  have hD := hD0.self (sz := s.heap.size)
  generalize hAe : va_A ws s.heap.size = A at hD ⊢
  have hA : ∀ q : Nat, s.heap.size ≤ q → A q := fun q h => by rw [← hAe]; exact Or.inr h
  have hS : va_S A s.heap s.heap [] := va_S.rf
  have hl := lv_entry ([.ref (ad this), .int p0]) (n := 2) (Nat.le_of_ble_eq_true rfl)
  rw [lg_entry_eq]
  generalize (lg_sl ([.ref (ad this), .int p0]) ++ List.replicate (2 - (lg_sl ([.ref (ad this), .int p0])).length) Slot.unset).toArray = ls at hl ⊢
  exact bm_X4_blame this p0 hk_this r c_G80 c_G81 hr hx hb hml hown hts hA hK hW hT hP hD hS hl (fun pc ls rz c_G80z c_G81z ws H locs he hz hd hW hT hP hD hS => by cases he; exact W.zret (v := r) hx hb hrt (z_nb hz) (fun t ht hW9 => ⟨⟨r, ws, rfl, ⟨rfl, hW, hT⟩, by rw [ht]; exact hP, va_K.moved hW9.alike hK, hD⟩, hS.F ht⟩) hS.2.2 hd)
set_option maxHeartbeats 4000000 in
set_option maxRecDepth 100000 in
theorem bm_X4_hasRoom {p : Program} {l : Launch} {e : Env} {s : State} {m : MethodId} {args : Array Value} {below : List Frame} {meth : Method} {c : Code} {Q : State → Prop} {A : Nat → Prop} {dC : Nat → ClassId} {dI : Nat → Nat → Nat} {kk : Nat → ClassId} {ad : Nat → Nat} {ws : va_W} {G : Nat → Nat → Int32} {P : Nat → Nat → Option Nat} {U : Nat → Nat → Int64} {V : Nat → Nat → Nat → Int32} {X : Nat → Nat → Nat → Int64} {O : Nat → Nat → Nat → Option Nat} {kd : Nat → Nat} {ln : Nat → Nat} {cnt : Nat} {H : Heap} {locs : List Loc} {ls : Array Slot} (this : Nat) (p0 : Int32) (hk_this : kd this = 5) (r : Int32) (c_G80 : Nat → Int32) (c_G81 : Nat → Int32) (hr : f_X4_hasRoom G P U V X O kd ln cnt this p0 = some (r, c_G80, c_G81)) (hx : p.tables.exec = Jvm.exec) (hb : c.code = cX4_hasRoom) (hml : c.maxLocals = 2) (hown : s.vm.findClass RX4 = some m.cls) (hts : ∀ w ∈ vmX4_hasRoom, w.before args s = true) (hA : ∀ q : Nat, s.heap.size ≤ q → A q) (hK : va_K (dC, dI) vwCl (cT kk) s) (hW : LW ws ad kk kd ln G P U V X O) (hT : TYP kd P O (V 0) cnt) (hP : va_P (dC, dI) vwCl ws H) (hD : va_D A ws) (hS : va_S A s.heap H locs) (hl : lv_has ls 2 [(0, .ref (ad this)), (1, .int p0)])
    (K : ∀ (pc : Nat) (ls : Array Slot) (rz : Int32) (c_G80z : Nat → Int32) (c_G81z : Nat → Int32) (ws : va_W) (H : Heap) (locs : List Loc), some (rz, c_G80z, c_G81z) = some (r, c_G80, c_G81) → is01 rz → decode cX4_hasRoom pc = .ok (.ireturn, 1) → LW ws ad kk kd ln (va_up (va_up G 80 c_G80z) 81 c_G81z) P U V X O → TYP kd P O (V 0) cnt → va_P (dC, dI) vwCl ws H → va_D A ws → va_S A s.heap H locs → W p l e ({ frames := 3, cells := 0, slots := 0, locals := 81 } : Room) s m args below meth c H locs 0 0 Q (F0 m pc ls [.int rz])) : W p l e ({ frames := 3, cells := 0, slots := 0, locals := 81 } : Room) s m args below meth c H locs 0 0 Q (F0 m 0 ls []) := by
  unfold f_X4_hasRoom at hr
  refine lv_iload_n hx hb dX4_hasRoom_0 rfl (lv_at hl 1 rfl) ?_
  replace hr := jnS hr
  obtain ⟨j17, hj17, hr⟩ := hr
  have Jj17 : ∀ (t17_0 : Int32) (c17_G80 : Nat → Int32) (c17_G81 : Nat → Int32) (ws : va_W) (H : Heap) (locs : List Loc) (ls : Array Slot), j17 t17_0 c17_G80 c17_G81 = some (r, c_G80, c_G81) → LW ws ad kk kd ln (va_up (va_up G 80 c17_G80) 81 c17_G81) P U V X O → TYP kd P O (V 0) cnt → va_P (dC, dI) vwCl ws H → va_D A ws → va_S A s.heap H locs → lv_has ls 2 [] → W p l e ({ frames := 3, cells := 0, slots := 0, locals := 81 } : Room) s m args below meth c H locs 0 0 Q (F0 m 17 ls [.int t17_0]) := by
    intro t17_0 c17_G80 c17_G81 ws H locs ls hr hW hT hP hD hS hl
    rw [hj17] at hr
    replace hr := iteS hr
    obtain ⟨hz17, hr⟩ := hr
    exact K 17 ls _ _ _ ws H _ hr hz17 dX4_hasRoom_17 hW hT hP hD hS
  replace hr := jnS hr
  obtain ⟨j12, hj12, hr⟩ := hr
  have Jj12 : ∀ (c12_G80 : Nat → Int32) (c12_G81 : Nat → Int32) (ws : va_W) (H : Heap) (locs : List Loc) (ls : Array Slot), j12 c12_G80 c12_G81 = some (r, c_G80, c_G81) → LW ws ad kk kd ln (va_up (va_up G 80 c12_G80) 81 c12_G81) P U V X O → TYP kd P O (V 0) cnt → va_P (dC, dI) vwCl ws H → va_D A ws → va_S A s.heap H locs → lv_has ls 2 [] → W p l e ({ frames := 3, cells := 0, slots := 0, locals := 81 } : Room) s m args below meth c H locs 0 0 Q (F0 m 12 ls []) := by
    intro c12_G80 c12_G81 ws H locs ls hr hW hT hP hD hS hl
    rw [hj12] at hr
    refine lv_iconst (v := 1) hx hb dX4_hasRoom_12 (by decide +kernel) ?_
    refine lv_goto (tgt := 17) hx hb dX4_hasRoom_13 (by decide) ?_
    exact Jj17 1 c12_G80 c12_G81 ws H _ ls hr hW hT hP hD hS (lv_sub hl [] rfl)
  refine lv_if_ne (tgt := 12) hx hb dX4_hasRoom_1 (by decide) (fun c1 => ?_) (fun c1 => ?_)
  · replace hr := iteF c1 hr
    have eG : G = (va_up (va_up G 80 (G 80)) 81 (G 81)) := by
      funext k
      by_cases h80 : k = 80
      · subst h80; rfl
      by_cases h81 : k = 81
      · subst h81; rfl
      · simp only [va_up, h80, h81, if_false]
    rw [eG] at hW
    clear eG
    exact Jj12 (G 80) (G 81) ws H _ ls hr hW hT hP hD hS (lv_sub hl [] rfl)
  · replace hr := iteT c1 hr
    refine lv_aload_n hx hb dX4_hasRoom_4 rfl (lv_at hl 0 rfl) ?_
    refine lv_iconst (v := 4) hx hb dX4_hasRoom_5 (by decide +kernel) ?_
    replace hr := b3S hr
    obtain ⟨r6z, c6_G80, c6_G81, hc6, hr⟩ := hr
    have hFc := fr_all hD hS hA
    obtain ⟨i1, hi1⟩ := hW.o4 hk_this
    refine va_calli (va_runV (As := [.int 4]) (rest := []) ⟨hx, hb, hml, hown, hts⟩ (m_X4_blame l dC dI kk ad H.size ws G P U V X O kd ln cnt this 4 hk_this hW hT r6z c6_G80 c6_G81 hc6) (cwV 1 hts gc_RX4_X4_blame_74 rfl rfl rfl (by decide +kernel) ⟨Nat.le_of_ble_eq_true rfl, Nat.le_of_ble_eq_true rfl⟩) ⟨fun a U g mk q => by obtain ⟨q0, q1, qP, qK, qD⟩ := q; exact ⟨q0, q1, qP, va_K.moved (u := U) (U := U.calling g mk a) (Vm.Alike.refl U.vm) qK, qD⟩, va_recv hK hP (ci := 4) (q0 := i1) rfl hi1, fun U hU hW => ⟨rfl, by rw [hU], by rw [hU]; exact hP, va_K.moved hW.alike hK, hD.weaken (fun _ _ _ _ => trivial)⟩⟩ rfl rfl hl.1 rfl (lv_room (Nat.le_of_ble_eq_true rfl)) dX4_hasRoom_6 ⟨Nat.le_of_ble_eq_true rfl, Nat.le_of_ble_eq_true rfl⟩) hS (fun q _ h => hFc q h) hFc (fun r6 w2 t H1 locs ht hvm hw hB hz1 hk1 hS => ?_)
    obtain ⟨hw0, hW, hT⟩ := hw
    replace hw0 : r6 = r6z := hw0
    subst hw0
    obtain ⟨hP1, hK1, hD1⟩ := hB
    rw [ht] at hP1
    obtain ⟨hP, hD⟩ := jn_all (w1 := w2) hFc hP1 hD1
    replace hP : va_P (dC, dI) vwCl w2 H1 := hP
    replace hD : va_D A w2 := hD
    clear hFc hP1 hK1 hD1 hk1 hz1 ht hvm
    generalize H1 = H at hP hS ⊢
    refine lv_if_eq (tgt := 16) hx hb dX4_hasRoom_9 (by decide) (fun c9 => ?_) (fun c9 => ?_)
    · replace hr := iteT c9 hr
      refine lv_iconst (v := 0) hx hb dX4_hasRoom_16 (by decide +kernel) ?_
      exact Jj17 0 c6_G80 c6_G81 w2 H _ ls hr hW hT hP hD hS (lv_sub hl [] rfl)
    · replace hr := iteF c9 hr
      exact Jj12 c6_G80 c6_G81 w2 H _ ls hr hW hT hP hD hS (lv_sub hl [] rfl)
set_option maxHeartbeats 4000000 in
set_option maxRecDepth 100000 in
theorem m_X4_hasRoom (l : Launch) (dC : Nat → ClassId) (dI : Nat → Nat → Nat) (kk : Nat → ClassId) (ad : Nat → Nat) (sz : Nat) (ws : va_W) (G : Nat → Nat → Int32) (P : Nat → Nat → Option Nat) (U : Nat → Nat → Int64) (V : Nat → Nat → Nat → Int32) (X : Nat → Nat → Nat → Int64) (O : Nat → Nat → Nat → Option Nat) (kd : Nat → Nat) (ln : Nat → Nat) (cnt : Nat) (this : Nat) (p0 : Int32) (hk_this : kd this = 5) (hW : LW ws ad kk kd ln G P U V X O) (hT : TYP kd P O (V 0) cnt) (r : Int32) (c_G80 : Nat → Int32) (c_G81 : Nat → Int32) (hr : f_X4_hasRoom G P U V X O kd ln cnt this p0 = some (r, c_G80, c_G81)) : Met l yX4_hasRoom vmX4_hasRoom ({ frames := 3, cells := 0, slots := 0, locals := 81 } : Room) (va_Pc [.ref (ad this), .int p0] (fun U => U.heap.size = sz ∧ va_P (dC, dI) vwCl ws U.heap ∧ va_K (dC, dI) vwCl (cT kk) U ∧ va_D (fun _ => True) ws)) (va_Qi (fun (rz : Int32) (w : va_W) => rz = r ∧ LW w ad kk kd ln (va_up (va_up G 80 c_G80) 81 c_G81) P U V X O ∧ TYP kd P O (V 0) cnt) (fun w t => va_P (dC, dI) vwCl w t.heap ∧ va_K (dC, dI) vwCl (cT kk) t ∧ va_D (va_A ws sz) w) (va_A ws sz)) 0 0 (va_A ws sz) := by
  refine Met.ofW (cc := cX4_hasRoom) (maxL := 2) (ret := (some .boolean)) (by decide) rfl ?_
  intro p e s m args below meth c s₁ B hml hv
  obtain ⟨rfl, hsz, hP, hK, hD0⟩ := hv
  have hx := B.exec
  have hb := B.bytes
  have hrt := B.returns
  have hts := atoms_spec (ws := vmX4_hasRoom) B.pre
  have hown : s.vm.findClass RX4 = some m.cls := findClass_of_methodNamed B.named
  subst hsz
  have hD := hD0.self (sz := s.heap.size)
  generalize hAe : va_A ws s.heap.size = A at hD ⊢
  have hA : ∀ q : Nat, s.heap.size ≤ q → A q := fun q h => by rw [← hAe]; exact Or.inr h
  have hS : va_S A s.heap s.heap [] := va_S.rf
  have hl := lv_entry ([.ref (ad this), .int p0]) (n := 2) (Nat.le_of_ble_eq_true rfl)
  rw [lg_entry_eq]
  generalize (lg_sl ([.ref (ad this), .int p0]) ++ List.replicate (2 - (lg_sl ([.ref (ad this), .int p0])).length) Slot.unset).toArray = ls at hl ⊢
  exact bm_X4_hasRoom this p0 hk_this r c_G80 c_G81 hr hx hb hml hown hts hA hK hW hT hP hD hS hl (fun pc ls rz c_G80z c_G81z ws H locs he hz hd hW hT hP hD hS => by cases he; exact W.zret (v := r) hx hb hrt (z_nb hz) (fun t ht hW9 => ⟨⟨r, ws, rfl, ⟨rfl, hW, hT⟩, by rw [ht]; exact hP, va_K.moved hW9.alike hK, hD⟩, hS.F ht⟩) hS.2.2 hd)
set_option maxHeartbeats 4000000 in
set_option maxRecDepth 100000 in
theorem bm_X4_isNew {p : Program} {l : Launch} {e : Env} {s : State} {m : MethodId} {args : Array Value} {below : List Frame} {meth : Method} {c : Code} {Q : State → Prop} {A : Nat → Prop} {dC : Nat → ClassId} {dI : Nat → Nat → Nat} {kk : Nat → ClassId} {ad : Nat → Nat} {ws : va_W} {G : Nat → Nat → Int32} {P : Nat → Nat → Option Nat} {U : Nat → Nat → Int64} {V : Nat → Nat → Nat → Int32} {X : Nat → Nat → Nat → Int64} {O : Nat → Nat → Nat → Option Nat} {kd : Nat → Nat} {ln : Nat → Nat} {cnt : Nat} {H : Heap} {locs : List Loc} {ls : Array Slot} (this : Nat) (p0 : Int32) (hk_this : kd this = 5) (r : Int32) (c_G80 : Nat → Int32) (c_G81 : Nat → Int32) (hr : f_X4_isNew G P U V X O kd ln cnt this p0 = some (r, c_G80, c_G81)) (hx : p.tables.exec = Jvm.exec) (hb : c.code = cX4_isNew) (hml : c.maxLocals = 2) (hown : s.vm.findClass RX4 = some m.cls) (hts : ∀ w ∈ vmX4_isNew, w.before args s = true) (hA : ∀ q : Nat, s.heap.size ≤ q → A q) (hK : va_K (dC, dI) vwCl (cT kk) s) (hW : LW ws ad kk kd ln G P U V X O) (hT : TYP kd P O (V 0) cnt) (hP : va_P (dC, dI) vwCl ws H) (hD : va_D A ws) (hS : va_S A s.heap H locs) (hl : lv_has ls 2 [(0, .ref (ad this)), (1, .int p0)])
    (K : ∀ (pc : Nat) (ls : Array Slot) (rz : Int32) (c_G80z : Nat → Int32) (c_G81z : Nat → Int32) (ws : va_W) (H : Heap) (locs : List Loc), some (rz, c_G80z, c_G81z) = some (r, c_G80, c_G81) → is01 rz → decode cX4_isNew pc = .ok (.ireturn, 1) → LW ws ad kk kd ln (va_up (va_up G 80 c_G80z) 81 c_G81z) P U V X O → TYP kd P O (V 0) cnt → va_P (dC, dI) vwCl ws H → va_D A ws → va_S A s.heap H locs → W p l e ({ frames := 3, cells := 0, slots := 0, locals := 81 } : Room) s m args below meth c H locs 0 0 Q (F0 m pc ls [.int rz])) : W p l e ({ frames := 3, cells := 0, slots := 0, locals := 81 } : Room) s m args below meth c H locs 0 0 Q (F0 m 0 ls []) := by
  unfold f_X4_isNew at hr
  refine lv_iload_n hx hb dX4_isNew_0 rfl (lv_at hl 1 rfl) ?_
  replace hr := jnS hr
  obtain ⟨j17, hj17, hr⟩ := hr
  have Jj17 : ∀ (t17_0 : Int32) (c17_G80 : Nat → Int32) (c17_G81 : Nat → Int32) (ws : va_W) (H : Heap) (locs : List Loc) (ls : Array Slot), j17 t17_0 c17_G80 c17_G81 = some (r, c_G80, c_G81) → LW ws ad kk kd ln (va_up (va_up G 80 c17_G80) 81 c17_G81) P U V X O → TYP kd P O (V 0) cnt → va_P (dC, dI) vwCl ws H → va_D A ws → va_S A s.heap H locs → lv_has ls 2 [] → W p l e ({ frames := 3, cells := 0, slots := 0, locals := 81 } : Room) s m args below meth c H locs 0 0 Q (F0 m 17 ls [.int t17_0]) := by
    intro t17_0 c17_G80 c17_G81 ws H locs ls hr hW hT hP hD hS hl
    rw [hj17] at hr
    replace hr := iteS hr
    obtain ⟨hz17, hr⟩ := hr
    exact K 17 ls _ _ _ ws H _ hr hz17 dX4_isNew_17 hW hT hP hD hS
  replace hr := jnS hr
  obtain ⟨j12, hj12, hr⟩ := hr
  have Jj12 : ∀ (c12_G80 : Nat → Int32) (c12_G81 : Nat → Int32) (ws : va_W) (H : Heap) (locs : List Loc) (ls : Array Slot), j12 c12_G80 c12_G81 = some (r, c_G80, c_G81) → LW ws ad kk kd ln (va_up (va_up G 80 c12_G80) 81 c12_G81) P U V X O → TYP kd P O (V 0) cnt → va_P (dC, dI) vwCl ws H → va_D A ws → va_S A s.heap H locs → lv_has ls 2 [] → W p l e ({ frames := 3, cells := 0, slots := 0, locals := 81 } : Room) s m args below meth c H locs 0 0 Q (F0 m 12 ls []) := by
    intro c12_G80 c12_G81 ws H locs ls hr hW hT hP hD hS hl
    rw [hj12] at hr
    refine lv_iconst (v := 1) hx hb dX4_isNew_12 (by decide +kernel) ?_
    refine lv_goto (tgt := 17) hx hb dX4_isNew_13 (by decide) ?_
    exact Jj17 1 c12_G80 c12_G81 ws H _ ls hr hW hT hP hD hS (lv_sub hl [] rfl)
  refine lv_if_ne (tgt := 12) hx hb dX4_isNew_1 (by decide) (fun c1 => ?_) (fun c1 => ?_)
  · replace hr := iteF c1 hr
    have eG : G = (va_up (va_up G 80 (G 80)) 81 (G 81)) := by
      funext k
      by_cases h80 : k = 80
      · subst h80; rfl
      by_cases h81 : k = 81
      · subst h81; rfl
      · simp only [va_up, h80, h81, if_false]
    rw [eG] at hW
    clear eG
    exact Jj12 (G 80) (G 81) ws H _ ls hr hW hT hP hD hS (lv_sub hl [] rfl)
  · replace hr := iteT c1 hr
    refine lv_aload_n hx hb dX4_isNew_4 rfl (lv_at hl 0 rfl) ?_
    refine lv_iconst (v := 3) hx hb dX4_isNew_5 (by decide +kernel) ?_
    replace hr := b3S hr
    obtain ⟨r6z, c6_G80, c6_G81, hc6, hr⟩ := hr
    have hFc := fr_all hD hS hA
    obtain ⟨i1, hi1⟩ := hW.o4 hk_this
    refine va_calli (va_runV (As := [.int 3]) (rest := []) ⟨hx, hb, hml, hown, hts⟩ (m_X4_blame l dC dI kk ad H.size ws G P U V X O kd ln cnt this 3 hk_this hW hT r6z c6_G80 c6_G81 hc6) (cwV 1 hts gc_RX4_X4_blame_74 rfl rfl rfl (by decide +kernel) ⟨Nat.le_of_ble_eq_true rfl, Nat.le_of_ble_eq_true rfl⟩) ⟨fun a U g mk q => by obtain ⟨q0, q1, qP, qK, qD⟩ := q; exact ⟨q0, q1, qP, va_K.moved (u := U) (U := U.calling g mk a) (Vm.Alike.refl U.vm) qK, qD⟩, va_recv hK hP (ci := 4) (q0 := i1) rfl hi1, fun U hU hW => ⟨rfl, by rw [hU], by rw [hU]; exact hP, va_K.moved hW.alike hK, hD.weaken (fun _ _ _ _ => trivial)⟩⟩ rfl rfl hl.1 rfl (lv_room (Nat.le_of_ble_eq_true rfl)) dX4_isNew_6 ⟨Nat.le_of_ble_eq_true rfl, Nat.le_of_ble_eq_true rfl⟩) hS (fun q _ h => hFc q h) hFc (fun r6 w2 t H1 locs ht hvm hw hB hz1 hk1 hS => ?_)
    obtain ⟨hw0, hW, hT⟩ := hw
    replace hw0 : r6 = r6z := hw0
    subst hw0
    obtain ⟨hP1, hK1, hD1⟩ := hB
    rw [ht] at hP1
    obtain ⟨hP, hD⟩ := jn_all (w1 := w2) hFc hP1 hD1
    replace hP : va_P (dC, dI) vwCl w2 H1 := hP
    replace hD : va_D A w2 := hD
    clear hFc hP1 hK1 hD1 hk1 hz1 ht hvm
    generalize H1 = H at hP hS ⊢
    refine lv_if_eq (tgt := 16) hx hb dX4_isNew_9 (by decide) (fun c9 => ?_) (fun c9 => ?_)
    · replace hr := iteT c9 hr
      refine lv_iconst (v := 0) hx hb dX4_isNew_16 (by decide +kernel) ?_
      exact Jj17 0 c6_G80 c6_G81 w2 H _ ls hr hW hT hP hD hS (lv_sub hl [] rfl)
    · replace hr := iteF c9 hr
      exact Jj12 c6_G80 c6_G81 w2 H _ ls hr hW hT hP hD hS (lv_sub hl [] rfl)
set_option maxHeartbeats 4000000 in
set_option maxRecDepth 100000 in
theorem m_X4_isNew (l : Launch) (dC : Nat → ClassId) (dI : Nat → Nat → Nat) (kk : Nat → ClassId) (ad : Nat → Nat) (sz : Nat) (ws : va_W) (G : Nat → Nat → Int32) (P : Nat → Nat → Option Nat) (U : Nat → Nat → Int64) (V : Nat → Nat → Nat → Int32) (X : Nat → Nat → Nat → Int64) (O : Nat → Nat → Nat → Option Nat) (kd : Nat → Nat) (ln : Nat → Nat) (cnt : Nat) (this : Nat) (p0 : Int32) (hk_this : kd this = 5) (hW : LW ws ad kk kd ln G P U V X O) (hT : TYP kd P O (V 0) cnt) (r : Int32) (c_G80 : Nat → Int32) (c_G81 : Nat → Int32) (hr : f_X4_isNew G P U V X O kd ln cnt this p0 = some (r, c_G80, c_G81)) : Met l yX4_isNew vmX4_isNew ({ frames := 3, cells := 0, slots := 0, locals := 81 } : Room) (va_Pc [.ref (ad this), .int p0] (fun U => U.heap.size = sz ∧ va_P (dC, dI) vwCl ws U.heap ∧ va_K (dC, dI) vwCl (cT kk) U ∧ va_D (fun _ => True) ws)) (va_Qi (fun (rz : Int32) (w : va_W) => rz = r ∧ LW w ad kk kd ln (va_up (va_up G 80 c_G80) 81 c_G81) P U V X O ∧ TYP kd P O (V 0) cnt) (fun w t => va_P (dC, dI) vwCl w t.heap ∧ va_K (dC, dI) vwCl (cT kk) t ∧ va_D (va_A ws sz) w) (va_A ws sz)) 0 0 (va_A ws sz) := by
  refine Met.ofW (cc := cX4_isNew) (maxL := 2) (ret := (some .boolean)) (by decide) rfl ?_
  intro p e s m args below meth c s₁ B hml hv
  obtain ⟨rfl, hsz, hP, hK, hD0⟩ := hv
  have hx := B.exec
  have hb := B.bytes
  have hrt := B.returns
  have hts := atoms_spec (ws := vmX4_isNew) B.pre
  have hown : s.vm.findClass RX4 = some m.cls := findClass_of_methodNamed B.named
  subst hsz
  have hD := hD0.self (sz := s.heap.size)
  generalize hAe : va_A ws s.heap.size = A at hD ⊢
  have hA : ∀ q : Nat, s.heap.size ≤ q → A q := fun q h => by rw [← hAe]; exact Or.inr h
  have hS : va_S A s.heap s.heap [] := va_S.rf
  have hl := lv_entry ([.ref (ad this), .int p0]) (n := 2) (Nat.le_of_ble_eq_true rfl)
  rw [lg_entry_eq]
  generalize (lg_sl ([.ref (ad this), .int p0]) ++ List.replicate (2 - (lg_sl ([.ref (ad this), .int p0])).length) Slot.unset).toArray = ls at hl ⊢
  exact bm_X4_isNew this p0 hk_this r c_G80 c_G81 hr hx hb hml hown hts hA hK hW hT hP hD hS hl (fun pc ls rz c_G80z c_G81z ws H locs he hz hd hW hT hP hD hS => by cases he; exact W.zret (v := r) hx hb hrt (z_nb hz) (fun t ht hW9 => ⟨⟨r, ws, rfl, ⟨rfl, hW, hT⟩, by rw [ht]; exact hP, va_K.moved hW9.alike hK, hD⟩, hS.F ht⟩) hS.2.2 hd)
set_option maxHeartbeats 4000000 in
set_option maxRecDepth 100000 in
theorem bm_X4_takeLetters {p : Program} {l : Launch} {e : Env} {s : State} {m : MethodId} {args : Array Value} {below : List Frame} {meth : Method} {c : Code} {Q : State → Prop} {A : Nat → Prop} {dC : Nat → ClassId} {dI : Nat → Nat → Nat} {kk : Nat → ClassId} {ad : Nat → Nat} {ws : va_W} {G : Nat → Nat → Int32} {P : Nat → Nat → Option Nat} {U : Nat → Nat → Int64} {V : Nat → Nat → Nat → Int32} {X : Nat → Nat → Nat → Int64} {O : Nat → Nat → Nat → Option Nat} {kd : Nat → Nat} {ln : Nat → Nat} {cnt : Nat} {H : Heap} {locs : List Loc} {ls : Array Slot} (this : Nat) (p0 : Int32) (hk_this : kd this = 5) (r : Int32) (c_G80 : Nat → Int32) (c_G81 : Nat → Int32) (c_G84 : Nat → Int32) (c_G85 : Nat → Int32) (c_G86 : Nat → Int32) (c_G87 : Nat → Int32) (c_G88 : Nat → Int32) (hr : f_X4_takeLetters G P U V X O kd ln cnt this p0 = some (r, c_G80, c_G81, c_G84, c_G85, c_G86, c_G87, c_G88)) (hx : p.tables.exec = Jvm.exec) (hb : c.code = cX4_takeLetters) (hml : c.maxLocals = 2) (hown : s.vm.findClass RX4 = some m.cls) (hts : ∀ w ∈ vmX4_takeLetters, w.before args s = true) (hA : ∀ q : Nat, s.heap.size ≤ q → A q) (hK : va_K (dC, dI) vwCl (cT kk) s) (hW : LW ws ad kk kd ln G P U V X O) (hT : TYP kd P O (V 0) cnt) (hP : va_P (dC, dI) vwCl ws H) (hD : va_D A ws) (hS : va_S A s.heap H locs) (hl : lv_has ls 2 [(0, .ref (ad this)), (1, .int p0)])
    (K : ∀ (pc : Nat) (ls : Array Slot) (rz : Int32) (c_G80z : Nat → Int32) (c_G81z : Nat → Int32) (c_G84z : Nat → Int32) (c_G85z : Nat → Int32) (c_G86z : Nat → Int32) (c_G87z : Nat → Int32) (c_G88z : Nat → Int32) (ws : va_W) (H : Heap) (locs : List Loc), some (rz, c_G80z, c_G81z, c_G84z, c_G85z, c_G86z, c_G87z, c_G88z) = some (r, c_G80, c_G81, c_G84, c_G85, c_G86, c_G87, c_G88) → is01 rz → decode cX4_takeLetters pc = .ok (.ireturn, 1) → LW ws ad kk kd ln (va_up (va_up (va_up (va_up (va_up (va_up (va_up G 80 c_G80z) 81 c_G81z) 84 c_G84z) 85 c_G85z) 86 c_G86z) 87 c_G87z) 88 c_G88z) P U V X O → TYP kd P O (V 0) cnt → va_P (dC, dI) vwCl ws H → va_D A ws → va_S A s.heap H locs → W p l e ({ frames := 5, cells := 0, slots := 0, locals := 121 } : Room) s m args below meth c H locs 0 0 Q (F0 m pc ls [.int rz])) : W p l e ({ frames := 5, cells := 0, slots := 0, locals := 121 } : Room) s m args below meth c H locs 0 0 Q (F0 m 0 ls []) := by
  unfold f_X4_takeLetters at hr
  refine lv_aload_n hx hb dX4_takeLetters_0 rfl (lv_at hl 0 rfl) ?_
  replace hr := b5S hr
  obtain ⟨c1_G84, c1_G85, c1_G86, c1_G87, c1_G88, hc1, hr⟩ := hr
  have hFc := fr_all hD hS hA
  obtain ⟨i1, hi1⟩ := hW.o4 hk_this
  refine va_callv (va_runV (As := []) (rest := []) ⟨hx, hb, hml, hown, hts⟩ (m_X4_nextToken l dC dI kk ad H.size ws G P U V X O kd ln cnt this hk_this hW hT c1_G84 c1_G85 c1_G86 c1_G87 c1_G88 hc1) (cwV 0 hts gc_RX4_X4_nextToken_46 rfl rfl rfl (by decide +kernel) ⟨Nat.le_of_ble_eq_true rfl, Nat.le_of_ble_eq_true rfl⟩) ⟨fun a U g mk q => by obtain ⟨q0, q1, qP, qK, qD⟩ := q; exact ⟨q0, q1, qP, va_K.moved (u := U) (U := U.calling g mk a) (Vm.Alike.refl U.vm) qK, qD⟩, va_recv hK hP (ci := 4) (q0 := i1) rfl hi1, fun U hU hW => ⟨rfl, by rw [hU], by rw [hU]; exact hP, va_K.moved hW.alike hK, hD.weaken (fun _ _ _ _ => trivial)⟩⟩ rfl rfl hl.1 rfl (lv_room (Nat.le_of_ble_eq_true rfl)) dX4_takeLetters_1 ⟨Nat.le_of_ble_eq_true rfl, Nat.le_of_ble_eq_true rfl⟩) hS (fun q _ h => hFc q h) hFc (fun w2 t H1 locs ht hvm hw hB hz1 hk1 hS => ?_)
  obtain ⟨hW, hT⟩ := hw
  obtain ⟨hP1, hK1, hD1⟩ := hB
  rw [ht] at hP1
  obtain ⟨hP, hD⟩ := jn_all (w1 := w2) hFc hP1 hD1
  replace hP : va_P (dC, dI) vwCl w2 H1 := hP
  replace hD : va_D A w2 := hD
  clear hFc hP1 hK1 hD1 hk1 hz1 ht hvm
  generalize H1 = H at hP hS ⊢
  refine lv_aload_n hx hb dX4_takeLetters_4 rfl (lv_at hl 0 rfl) ?_
  obtain ⟨i3, hi3⟩ := hW.o4 hk_this
  refine va_get (D := (dC, dI)) (ci := 4) (v := .int (c1_G85 this)) (C := RX4) (T := TX4) (N := 9) hx hb hts inX4 hown hK hP i3 hi3 rfl 5 (by decide) (hts (.fieldLink RX4 28 "SpellTurner$Reader" "token" "I") ic_360) (fun _ h9 => h9) rfl dX4_takeLetters_5 ?_
  refine lv_iconst (v := 2) hx hb dX4_takeLetters_8 (by decide +kernel) ?_
  refine lv_icmp_eq (tgt := 18) hx hb dX4_takeLetters_9 (by decide) (fun c9 => ?_) (fun c9 => ?_)
  · replace hr := iteT c9 hr
    refine lv_aload_n hx hb dX4_takeLetters_18 rfl (lv_at hl 0 rfl) ?_
    obtain ⟨i4, hi4⟩ := hW.o4 hk_this
    refine va_get (D := (dC, dI)) (ci := 4) (v := .int (c1_G88 this)) (C := RX4) (T := TX4) (N := 9) hx hb hts inX4 hown hK hP i4 hi4 rfl 8 (by decide) (hts (.fieldLink RX4 37 "SpellTurner$Reader" "length" "I") ic_351) (fun _ h9 => h9) rfl dX4_takeLetters_19 ?_
    replace hr := jnS hr
    obtain ⟨j42, hj42, hr⟩ := hr
    have Jj42 : ∀ (t42_0 : Int32) (c42_G80 : Nat → Int32) (c42_G81 : Nat → Int32) (ws : va_W) (H : Heap) (locs : List Loc) (ls : Array Slot), j42 t42_0 c42_G80 c42_G81 = some (r, c_G80, c_G81, c_G84, c_G85, c_G86, c_G87, c_G88) → LW ws ad kk kd ln (va_up (va_up (va_up (va_up (va_up (va_up (va_up G 80 c42_G80) 81 c42_G81) 84 c1_G84) 85 c1_G85) 86 c1_G86) 87 c1_G87) 88 c1_G88) P U V X O → TYP kd P O (V 0) cnt → va_P (dC, dI) vwCl ws H → va_D A ws → va_S A s.heap H locs → lv_has ls 2 [] → W p l e ({ frames := 5, cells := 0, slots := 0, locals := 121 } : Room) s m args below meth c H locs 0 0 Q (F0 m 42 ls [.int t42_0]) := by
      intro t42_0 c42_G80 c42_G81 ws H locs ls hr hW hT hP hD hS hl
      rw [hj42] at hr
      replace hr := iteS hr
      obtain ⟨hz42, hr⟩ := hr
      exact K 42 ls _ _ _ _ _ _ _ _ ws H _ hr hz42 dX4_takeLetters_42 hW hT hP hD hS
    replace hr := jnS hr
    obtain ⟨j37, hj37, hr⟩ := hr
    have Jj37 : ∀ (c37_G80 : Nat → Int32) (c37_G81 : Nat → Int32) (ws : va_W) (H : Heap) (locs : List Loc) (ls : Array Slot), j37 c37_G80 c37_G81 = some (r, c_G80, c_G81, c_G84, c_G85, c_G86, c_G87, c_G88) → LW ws ad kk kd ln (va_up (va_up (va_up (va_up (va_up (va_up (va_up G 80 c37_G80) 81 c37_G81) 84 c1_G84) 85 c1_G85) 86 c1_G86) 87 c1_G87) 88 c1_G88) P U V X O → TYP kd P O (V 0) cnt → va_P (dC, dI) vwCl ws H → va_D A ws → va_S A s.heap H locs → lv_has ls 2 [] → W p l e ({ frames := 5, cells := 0, slots := 0, locals := 121 } : Room) s m args below meth c H locs 0 0 Q (F0 m 37 ls []) := by
      intro c37_G80 c37_G81 ws H locs ls hr hW hT hP hD hS hl
      rw [hj37] at hr
      refine lv_iconst (v := 1) hx hb dX4_takeLetters_37 (by decide +kernel) ?_
      refine lv_goto (tgt := 42) hx hb dX4_takeLetters_38 (by decide) ?_
      exact Jj42 1 c37_G80 c37_G81 ws H _ ls hr hW hT hP hD hS (lv_sub hl [] rfl)
    refine lv_if_gt (tgt := 37) hx hb dX4_takeLetters_22 (by decide) (fun c22 => ?_) (fun c22 => ?_)
    · replace hr := iteT c22 hr
      have eG : (va_up (va_up (va_up (va_up (va_up G 84 c1_G84) 85 c1_G85) 86 c1_G86) 87 c1_G87) 88 c1_G88) = (va_up (va_up (va_up (va_up (va_up (va_up (va_up G 80 (G 80)) 81 (G 81)) 84 c1_G84) 85 c1_G85) 86 c1_G86) 87 c1_G87) 88 c1_G88) := by
        funext k
        by_cases h80 : k = 80
        · subst h80; rfl
        by_cases h81 : k = 81
        · subst h81; rfl
        by_cases h84 : k = 84
        · subst h84; rfl
        by_cases h85 : k = 85
        · subst h85; rfl
        by_cases h86 : k = 86
        · subst h86; rfl
        by_cases h87 : k = 87
        · subst h87; rfl
        by_cases h88 : k = 88
        · subst h88; rfl
        · simp only [va_up, h80, h81, h84, h85, h86, h87, h88, if_false]
      rw [eG] at hW
      clear eG
      exact Jj37 (G 80) (G 81) w2 H _ ls hr hW hT hP hD hS (lv_sub hl [] rfl)
    · replace hr := iteF c22 hr
      refine lv_iload_n hx hb dX4_takeLetters_25 rfl (lv_at hl 1 rfl) ?_
      refine lv_if_ne (tgt := 37) hx hb dX4_takeLetters_26 (by decide) (fun c26 => ?_) (fun c26 => ?_)
      · replace hr := iteF c26 hr
        have eG : (va_up (va_up (va_up (va_up (va_up G 84 c1_G84) 85 c1_G85) 86 c1_G86) 87 c1_G87) 88 c1_G88) = (va_up (va_up (va_up (va_up (va_up (va_up (va_up G 80 (G 80)) 81 (G 81)) 84 c1_G84) 85 c1_G85) 86 c1_G86) 87 c1_G87) 88 c1_G88) := by
          funext k
          by_cases h80 : k = 80
          · subst h80; rfl
          by_cases h81 : k = 81
          · subst h81; rfl
          by_cases h84 : k = 84
          · subst h84; rfl
          by_cases h85 : k = 85
          · subst h85; rfl
          by_cases h86 : k = 86
          · subst h86; rfl
          by_cases h87 : k = 87
          · subst h87; rfl
          by_cases h88 : k = 88
          · subst h88; rfl
          · simp only [va_up, h80, h81, h84, h85, h86, h87, h88, if_false]
        rw [eG] at hW
        clear eG
        exact Jj37 (G 80) (G 81) w2 H _ ls hr hW hT hP hD hS (lv_sub hl [] rfl)
      · replace hr := iteT c26 hr
        refine lv_aload_n hx hb dX4_takeLetters_29 rfl (lv_at hl 0 rfl) ?_
        refine lv_iconst (v := 2) hx hb dX4_takeLetters_30 (by decide +kernel) ?_
        replace hr := b3S hr
        obtain ⟨r31z, c31_G80, c31_G81, hc31, hr⟩ := hr
        have hFc := fr_all hD hS hA
        obtain ⟨i5, hi5⟩ := hW.o4 hk_this
        refine va_calli (va_runV (As := [.int 2]) (rest := []) ⟨hx, hb, hml, hown, hts⟩ (m_X4_blame l dC dI kk ad H.size w2 (va_up (va_up (va_up (va_up (va_up G 84 c1_G84) 85 c1_G85) 86 c1_G86) 87 c1_G87) 88 c1_G88) P U V X O kd ln cnt this 2 hk_this hW hT r31z c31_G80 c31_G81 hc31) (cwV 1 hts gc_RX4_X4_blame_74 rfl rfl rfl (by decide +kernel) ⟨Nat.le_of_ble_eq_true rfl, Nat.le_of_ble_eq_true rfl⟩) ⟨fun a U g mk q => by obtain ⟨q0, q1, qP, qK, qD⟩ := q; exact ⟨q0, q1, qP, va_K.moved (u := U) (U := U.calling g mk a) (Vm.Alike.refl U.vm) qK, qD⟩, va_recv hK hP (ci := 4) (q0 := i5) rfl hi5, fun U hU hW => ⟨rfl, by rw [hU], by rw [hU]; exact hP, va_K.moved hW.alike hK, hD.weaken (fun _ _ _ _ => trivial)⟩⟩ rfl rfl hl.1 rfl (lv_room (Nat.le_of_ble_eq_true rfl)) dX4_takeLetters_31 ⟨Nat.le_of_ble_eq_true rfl, Nat.le_of_ble_eq_true rfl⟩) hS (fun q _ h => hFc q h) hFc (fun r31 w6 t H1 locs ht hvm hw hB hz1 hk1 hS => ?_)
        obtain ⟨hw0, hW, hT⟩ := hw
        replace hw0 : r31 = r31z := hw0
        subst hw0
        obtain ⟨hP1, hK1, hD1⟩ := hB
        rw [ht] at hP1
        obtain ⟨hP, hD⟩ := jn_all (w1 := w6) hFc hP1 hD1
        replace hP : va_P (dC, dI) vwCl w6 H1 := hP
        replace hD : va_D A w6 := hD
        clear hFc hP1 hK1 hD1 hk1 hz1 ht hvm
        generalize H1 = H at hP hS ⊢
        refine lv_if_eq (tgt := 41) hx hb dX4_takeLetters_34 (by decide) (fun c34 => ?_) (fun c34 => ?_)
        · replace hr := iteT c34 hr
          refine lv_iconst (v := 0) hx hb dX4_takeLetters_41 (by decide +kernel) ?_
          have eG : (va_up (va_up (va_up (va_up (va_up (va_up (va_up G 84 c1_G84) 85 c1_G85) 86 c1_G86) 87 c1_G87) 88 c1_G88) 80 c31_G80) 81 c31_G81) = (va_up (va_up (va_up (va_up (va_up (va_up (va_up G 80 c31_G80) 81 c31_G81) 84 c1_G84) 85 c1_G85) 86 c1_G86) 87 c1_G87) 88 c1_G88) := by
            funext k
            by_cases h80 : k = 80
            · subst h80; rfl
            by_cases h81 : k = 81
            · subst h81; rfl
            by_cases h84 : k = 84
            · subst h84; rfl
            by_cases h85 : k = 85
            · subst h85; rfl
            by_cases h86 : k = 86
            · subst h86; rfl
            by_cases h87 : k = 87
            · subst h87; rfl
            by_cases h88 : k = 88
            · subst h88; rfl
            · simp only [va_up, h80, h81, h84, h85, h86, h87, h88, if_false]
          rw [eG] at hW
          clear eG
          exact Jj42 0 c31_G80 c31_G81 w6 H _ ls hr hW hT hP hD hS (lv_sub hl [] rfl)
        · replace hr := iteF c34 hr
          have eG : (va_up (va_up (va_up (va_up (va_up (va_up (va_up G 84 c1_G84) 85 c1_G85) 86 c1_G86) 87 c1_G87) 88 c1_G88) 80 c31_G80) 81 c31_G81) = (va_up (va_up (va_up (va_up (va_up (va_up (va_up G 80 c31_G80) 81 c31_G81) 84 c1_G84) 85 c1_G85) 86 c1_G86) 87 c1_G87) 88 c1_G88) := by
            funext k
            by_cases h80 : k = 80
            · subst h80; rfl
            by_cases h81 : k = 81
            · subst h81; rfl
            by_cases h84 : k = 84
            · subst h84; rfl
            by_cases h85 : k = 85
            · subst h85; rfl
            by_cases h86 : k = 86
            · subst h86; rfl
            by_cases h87 : k = 87
            · subst h87; rfl
            by_cases h88 : k = 88
            · subst h88; rfl
            · simp only [va_up, h80, h81, h84, h85, h86, h87, h88, if_false]
          rw [eG] at hW
          clear eG
          exact Jj37 c31_G80 c31_G81 w6 H _ ls hr hW hT hP hD hS (lv_sub hl [] rfl)
  · replace hr := iteF c9 hr
    refine lv_aload_n hx hb dX4_takeLetters_12 rfl (lv_at hl 0 rfl) ?_
    refine lv_iconst (v := 1) hx hb dX4_takeLetters_13 (by decide +kernel) ?_
    replace hr := b3S hr
    obtain ⟨r14z, c14_G80, c14_G81, hc14, hr⟩ := hr
    have hFc := fr_all hD hS hA
    obtain ⟨i7, hi7⟩ := hW.o4 hk_this
    refine va_calli (va_runV (As := [.int 1]) (rest := []) ⟨hx, hb, hml, hown, hts⟩ (m_X4_blame l dC dI kk ad H.size w2 (va_up (va_up (va_up (va_up (va_up G 84 c1_G84) 85 c1_G85) 86 c1_G86) 87 c1_G87) 88 c1_G88) P U V X O kd ln cnt this 1 hk_this hW hT r14z c14_G80 c14_G81 hc14) (cwV 1 hts gc_RX4_X4_blame_74 rfl rfl rfl (by decide +kernel) ⟨Nat.le_of_ble_eq_true rfl, Nat.le_of_ble_eq_true rfl⟩) ⟨fun a U g mk q => by obtain ⟨q0, q1, qP, qK, qD⟩ := q; exact ⟨q0, q1, qP, va_K.moved (u := U) (U := U.calling g mk a) (Vm.Alike.refl U.vm) qK, qD⟩, va_recv hK hP (ci := 4) (q0 := i7) rfl hi7, fun U hU hW => ⟨rfl, by rw [hU], by rw [hU]; exact hP, va_K.moved hW.alike hK, hD.weaken (fun _ _ _ _ => trivial)⟩⟩ rfl rfl hl.1 rfl (lv_room (Nat.le_of_ble_eq_true rfl)) dX4_takeLetters_14 ⟨Nat.le_of_ble_eq_true rfl, Nat.le_of_ble_eq_true rfl⟩) hS (fun q _ h => hFc q h) hFc (fun r14 w8 t H1 locs ht hvm hw hB hz1 hk1 hS => ?_)
    obtain ⟨hw0, hW, hT⟩ := hw
    replace hw0 : r14 = r14z := hw0
    subst hw0
    obtain ⟨hP1, hK1, hD1⟩ := hB
    rw [ht] at hP1
    obtain ⟨hP, hD⟩ := jn_all (w1 := w8) hFc hP1 hD1
    replace hP : va_P (dC, dI) vwCl w8 H1 := hP
    replace hD : va_D A w8 := hD
    clear hFc hP1 hK1 hD1 hk1 hz1 ht hvm
    generalize H1 = H at hP hS ⊢
    replace hr := iteS hr
    obtain ⟨hz17, hr⟩ := hr
    have eG : (va_up (va_up (va_up (va_up (va_up (va_up (va_up G 84 c1_G84) 85 c1_G85) 86 c1_G86) 87 c1_G87) 88 c1_G88) 80 c14_G80) 81 c14_G81) = (va_up (va_up (va_up (va_up (va_up (va_up (va_up G 80 c14_G80) 81 c14_G81) 84 c1_G84) 85 c1_G85) 86 c1_G86) 87 c1_G87) 88 c1_G88) := by
      funext k
      by_cases h80 : k = 80
      · subst h80; rfl
      by_cases h81 : k = 81
      · subst h81; rfl
      by_cases h84 : k = 84
      · subst h84; rfl
      by_cases h85 : k = 85
      · subst h85; rfl
      by_cases h86 : k = 86
      · subst h86; rfl
      by_cases h87 : k = 87
      · subst h87; rfl
      by_cases h88 : k = 88
      · subst h88; rfl
      · simp only [va_up, h80, h81, h84, h85, h86, h87, h88, if_false]
    rw [eG] at hW
    clear eG
    exact K 17 ls _ _ _ _ _ _ _ _ w8 H _ hr hz17 dX4_takeLetters_17 hW hT hP hD hS
set_option maxHeartbeats 4000000 in
set_option maxRecDepth 100000 in
theorem m_X4_takeLetters (l : Launch) (dC : Nat → ClassId) (dI : Nat → Nat → Nat) (kk : Nat → ClassId) (ad : Nat → Nat) (sz : Nat) (ws : va_W) (G : Nat → Nat → Int32) (P : Nat → Nat → Option Nat) (U : Nat → Nat → Int64) (V : Nat → Nat → Nat → Int32) (X : Nat → Nat → Nat → Int64) (O : Nat → Nat → Nat → Option Nat) (kd : Nat → Nat) (ln : Nat → Nat) (cnt : Nat) (this : Nat) (p0 : Int32) (hk_this : kd this = 5) (hW : LW ws ad kk kd ln G P U V X O) (hT : TYP kd P O (V 0) cnt) (r : Int32) (c_G80 : Nat → Int32) (c_G81 : Nat → Int32) (c_G84 : Nat → Int32) (c_G85 : Nat → Int32) (c_G86 : Nat → Int32) (c_G87 : Nat → Int32) (c_G88 : Nat → Int32) (hr : f_X4_takeLetters G P U V X O kd ln cnt this p0 = some (r, c_G80, c_G81, c_G84, c_G85, c_G86, c_G87, c_G88)) : Met l yX4_takeLetters vmX4_takeLetters ({ frames := 5, cells := 0, slots := 0, locals := 121 } : Room) (va_Pc [.ref (ad this), .int p0] (fun U => U.heap.size = sz ∧ va_P (dC, dI) vwCl ws U.heap ∧ va_K (dC, dI) vwCl (cT kk) U ∧ va_D (fun _ => True) ws)) (va_Qi (fun (rz : Int32) (w : va_W) => rz = r ∧ LW w ad kk kd ln (va_up (va_up (va_up (va_up (va_up (va_up (va_up G 80 c_G80) 81 c_G81) 84 c_G84) 85 c_G85) 86 c_G86) 87 c_G87) 88 c_G88) P U V X O ∧ TYP kd P O (V 0) cnt) (fun w t => va_P (dC, dI) vwCl w t.heap ∧ va_K (dC, dI) vwCl (cT kk) t ∧ va_D (va_A ws sz) w) (va_A ws sz)) 0 0 (va_A ws sz) := by
  refine Met.ofW (cc := cX4_takeLetters) (maxL := 2) (ret := (some .boolean)) (by decide) rfl ?_
  intro p e s m args below meth c s₁ B hml hv
  obtain ⟨rfl, hsz, hP, hK, hD0⟩ := hv
  have hx := B.exec
  have hb := B.bytes
  have hrt := B.returns
  have hts := atoms_spec (ws := vmX4_takeLetters) B.pre
  have hown : s.vm.findClass RX4 = some m.cls := findClass_of_methodNamed B.named
  subst hsz
  have hD := hD0.self (sz := s.heap.size)
  generalize hAe : va_A ws s.heap.size = A at hD ⊢
  have hA : ∀ q : Nat, s.heap.size ≤ q → A q := fun q h => by rw [← hAe]; exact Or.inr h
  have hS : va_S A s.heap s.heap [] := va_S.rf
  have hl := lv_entry ([.ref (ad this), .int p0]) (n := 2) (Nat.le_of_ble_eq_true rfl)
  rw [lg_entry_eq]
  generalize (lg_sl ([.ref (ad this), .int p0]) ++ List.replicate (2 - (lg_sl ([.ref (ad this), .int p0])).length) Slot.unset).toArray = ls at hl ⊢
  exact bm_X4_takeLetters this p0 hk_this r c_G80 c_G81 c_G84 c_G85 c_G86 c_G87 c_G88 hr hx hb hml hown hts hA hK hW hT hP hD hS hl (fun pc ls rz c_G80z c_G81z c_G84z c_G85z c_G86z c_G87z c_G88z ws H locs he hz hd hW hT hP hD hS => by cases he; exact W.zret (v := r) hx hb hrt (z_nb hz) (fun t ht hW9 => ⟨⟨r, ws, rfl, ⟨rfl, hW, hT⟩, by rw [ht]; exact hP, va_K.moved hW9.alike hK, hD⟩, hS.F ht⟩) hS.2.2 hd)
set_option maxHeartbeats 4000000 in
set_option maxRecDepth 100000 in
theorem bm_X4_takeNew {p : Program} {l : Launch} {e : Env} {s : State} {m : MethodId} {args : Array Value} {below : List Frame} {meth : Method} {c : Code} {Q : State → Prop} {A : Nat → Prop} {dC : Nat → ClassId} {dI : Nat → Nat → Nat} {kk : Nat → ClassId} {ad : Nat → Nat} {ws : va_W} {G : Nat → Nat → Int32} {P : Nat → Nat → Option Nat} {U : Nat → Nat → Int64} {V : Nat → Nat → Nat → Int32} {X : Nat → Nat → Nat → Int64} {O : Nat → Nat → Nat → Option Nat} {kd : Nat → Nat} {ln : Nat → Nat} {cnt : Nat} {H : Heap} {locs : List Loc} {ls : Array Slot} (this : Nat) (p0 : Nat) (hk_this : kd this = 5) (hk_p0 : kd p0 = 11) (r : Int32) (c_G80 : Nat → Int32) (c_G81 : Nat → Int32) (c_G84 : Nat → Int32) (c_G85 : Nat → Int32) (c_G86 : Nat → Int32) (c_G87 : Nat → Int32) (c_G88 : Nat → Int32) (hr : f_X4_takeNew G P U V X O kd ln cnt this p0 = some (r, c_G80, c_G81, c_G84, c_G85, c_G86, c_G87, c_G88)) (hx : p.tables.exec = Jvm.exec) (hb : c.code = cX4_takeNew) (hml : c.maxLocals = 2) (hown : s.vm.findClass RX4 = some m.cls) (hts : ∀ w ∈ vmX4_takeNew, w.before args s = true) (hA : ∀ q : Nat, s.heap.size ≤ q → A q) (hK : va_K (dC, dI) vwCl (cT kk) s) (hW : LW ws ad kk kd ln G P U V X O) (hT : TYP kd P O (V 0) cnt) (hP : va_P (dC, dI) vwCl ws H) (hD : va_D A ws) (hS : va_S A s.heap H locs) (hl : lv_has ls 2 [(0, .ref (ad this)), (1, .ref (ad p0))])
    (K : ∀ (pc : Nat) (ls : Array Slot) (rz : Int32) (c_G80z : Nat → Int32) (c_G81z : Nat → Int32) (c_G84z : Nat → Int32) (c_G85z : Nat → Int32) (c_G86z : Nat → Int32) (c_G87z : Nat → Int32) (c_G88z : Nat → Int32) (ws : va_W) (H : Heap) (locs : List Loc), some (rz, c_G80z, c_G81z, c_G84z, c_G85z, c_G86z, c_G87z, c_G88z) = some (r, c_G80, c_G81, c_G84, c_G85, c_G86, c_G87, c_G88) → is01 rz → decode cX4_takeNew pc = .ok (.ireturn, 1) → LW ws ad kk kd ln (va_up (va_up (va_up (va_up (va_up (va_up (va_up G 80 c_G80z) 81 c_G81z) 84 c_G84z) 85 c_G85z) 86 c_G86z) 87 c_G87z) 88 c_G88z) P U V X O → TYP kd P O (V 0) cnt → va_P (dC, dI) vwCl ws H → va_D A ws → va_S A s.heap H locs → W p l e ({ frames := 6, cells := 0, slots := 0, locals := 142 } : Room) s m args below meth c H locs 0 0 Q (F0 m pc ls [.int rz])) : W p l e ({ frames := 6, cells := 0, slots := 0, locals := 142 } : Room) s m args below meth c H locs 0 0 Q (F0 m 0 ls []) := by
  unfold f_X4_takeNew at hr
  refine lv_aload_n hx hb dX4_takeNew_0 rfl (lv_at hl 0 rfl) ?_
  refine lv_iconst (v := 0) hx hb dX4_takeNew_1 (by decide +kernel) ?_
  replace hr := b8S hr
  obtain ⟨r2z, c2_G80, c2_G81, c2_G84, c2_G85, c2_G86, c2_G87, c2_G88, hc2, hr⟩ := hr
  have hFc := fr_all hD hS hA
  obtain ⟨i1, hi1⟩ := hW.o4 hk_this
  refine va_calli (va_runV (As := [.int 0]) (rest := []) ⟨hx, hb, hml, hown, hts⟩ (m_X4_takeLetters l dC dI kk ad H.size ws G P U V X O kd ln cnt this 0 hk_this hW hT r2z c2_G80 c2_G81 c2_G84 c2_G85 c2_G86 c2_G87 c2_G88 hc2) (cwV 1 hts gc_RX4_X4_takeLetters_111 rfl rfl rfl (by decide +kernel) ⟨Nat.le_of_ble_eq_true rfl, Nat.le_of_ble_eq_true rfl⟩) ⟨fun a U g mk q => by obtain ⟨q0, q1, qP, qK, qD⟩ := q; exact ⟨q0, q1, qP, va_K.moved (u := U) (U := U.calling g mk a) (Vm.Alike.refl U.vm) qK, qD⟩, va_recv hK hP (ci := 4) (q0 := i1) rfl hi1, fun U hU hW => ⟨rfl, by rw [hU], by rw [hU]; exact hP, va_K.moved hW.alike hK, hD.weaken (fun _ _ _ _ => trivial)⟩⟩ rfl rfl hl.1 rfl (lv_room (Nat.le_of_ble_eq_true rfl)) dX4_takeNew_2 ⟨Nat.le_of_ble_eq_true rfl, Nat.le_of_ble_eq_true rfl⟩) hS (fun q _ h => hFc q h) hFc (fun r2 w2 t H1 locs ht hvm hw hB hz1 hk1 hS => ?_)
  obtain ⟨hw0, hW, hT⟩ := hw
  replace hw0 : r2 = r2z := hw0
  subst hw0
  obtain ⟨hP1, hK1, hD1⟩ := hB
  rw [ht] at hP1
  obtain ⟨hP, hD⟩ := jn_all (w1 := w2) hFc hP1 hD1
  replace hP : va_P (dC, dI) vwCl w2 H1 := hP
  replace hD : va_D A w2 := hD
  clear hFc hP1 hK1 hD1 hk1 hz1 ht hvm
  generalize H1 = H at hP hS ⊢
  refine lv_if_ne (tgt := 10) hx hb dX4_takeNew_5 (by decide) (fun c5 => ?_) (fun c5 => ?_)
  · replace hr := iteF c5 hr
    refine lv_aload_n hx hb dX4_takeNew_10 rfl (lv_at hl 0 rfl) ?_
    refine lv_aload_n hx hb dX4_takeNew_11 rfl (lv_at hl 1 rfl) ?_
    refine lv_aload_n hx hb dX4_takeNew_12 rfl (lv_at hl 0 rfl) ?_
    obtain ⟨i3, hi3⟩ := hW.o4 hk_this
    replace hr := nnS hr
    obtain ⟨a13, hn13, hr⟩ := hr
    have hk_a13 : kd a13 = 100 := hT.1 82 _ _ hn13
    refine va_get (D := (dC, dI)) (ci := 4) (v := .ref (ad a13)) (C := RX4) (T := TX4) (N := 9) hx hb hts inX4 hown hK hP i3 hi3 rfl 2 (by decide) (hts (.fieldLink RX4 18 "SpellTurner$Reader" "text" "[B") ic_352) (fun _ h9 => h9) (congrArg (fun o => some (va_re ad o)) hn13) dX4_takeNew_13 ?_
    refine lv_aload_n hx hb dX4_takeNew_16 rfl (lv_at hl 0 rfl) ?_
    obtain ⟨i4, hi4⟩ := hW.o4 hk_this
    refine va_get (D := (dC, dI)) (ci := 4) (v := .int (c2_G87 this)) (C := RX4) (T := TX4) (N := 9) hx hb hts inX4 hown hK hP i4 hi4 rfl 7 (by decide) (hts (.fieldLink RX4 34 "SpellTurner$Reader" "start" "I") ic_349) (fun _ h9 => h9) rfl dX4_takeNew_17 ?_
    refine lv_aload_n hx hb dX4_takeNew_20 rfl (lv_at hl 0 rfl) ?_
    obtain ⟨i5, hi5⟩ := hW.o4 hk_this
    refine va_get (D := (dC, dI)) (ci := 4) (v := .int (c2_G88 this)) (C := RX4) (T := TX4) (N := 9) hx hb hts inX4 hown hK hP i5 hi5 rfl 8 (by decide) (hts (.fieldLink RX4 37 "SpellTurner$Reader" "length" "I") ic_351) (fun _ h9 => h9) rfl dX4_takeNew_21 ?_
    replace hr := b1S hr
    obtain ⟨r24z, hc24, hr⟩ := hr
    have hFc := fr_all hD hS hA
    obtain ⟨i6, hi6⟩ := hW.o10 hk_p0
    refine va_calli (va_runV (As := [.ref (ad a13), .int (c2_G87 this), .int (c2_G88 this)]) (rest := [.ref (ad this)]) ⟨hx, hb, hml, hown, hts⟩ (m_X10_find l dC dI kk ad H.size w2 (va_up (va_up (va_up (va_up (va_up (va_up (va_up G 80 c2_G80) 81 c2_G81) 84 c2_G84) 85 c2_G85) 86 c2_G86) 87 c2_G87) 88 c2_G88) P U V X O kd ln cnt p0 a13 (c2_G87 this) (c2_G88 this) hk_p0 hk_a13 hW hT r24z hc24) (cwV 3 hts gc_RX4_X10_find_165 rfl rfl rfl (by decide +kernel) ⟨Nat.le_of_ble_eq_true rfl, Nat.le_of_ble_eq_true rfl⟩) ⟨fun a U g mk q => by obtain ⟨q0, q1, qP, qK, qD⟩ := q; exact ⟨q0, q1, qP, va_K.moved (u := U) (U := U.calling g mk a) (Vm.Alike.refl U.vm) qK, qD⟩, va_recv hK hP (ci := 10) (q0 := i6) rfl hi6, fun U hU hW => ⟨rfl, by rw [hU], by rw [hU]; exact hP, va_K.moved hW.alike hK, hD.weaken (fun _ _ _ _ => trivial)⟩⟩ rfl rfl hl.1 rfl (lv_room (Nat.le_of_ble_eq_true rfl)) dX4_takeNew_24 ⟨Nat.le_of_ble_eq_true rfl, Nat.le_of_ble_eq_true rfl⟩) hS (fun q _ h => hFc q h) hFc (fun r24 w7 t H1 locs ht hvm hw hB hz1 hk1 hS => ?_)
    obtain ⟨hw0, hW, hT⟩ := hw
    replace hw0 : r24 = r24z := hw0
    subst hw0
    obtain ⟨hP1, hK1, hD1⟩ := hB
    rw [ht] at hP1
    obtain ⟨hP, hD⟩ := jn_all (w1 := w7) hFc hP1 hD1
    replace hP : va_P (dC, dI) vwCl w7 H1 := hP
    replace hD : va_D A w7 := hD
    clear hFc hP1 hK1 hD1 hk1 hz1 ht hvm
    generalize H1 = H at hP hS ⊢
    refine lv_iconst (v := (-1)) hx hb dX4_takeNew_27 (by decide +kernel) ?_
    replace hr := jnS hr
    obtain ⟨j36, hj36, hr⟩ := hr
    have Jj36 : ∀ (t36_0 : Int32) (ws : va_W) (H : Heap) (locs : List Loc) (ls : Array Slot), j36 t36_0 = some (r, c_G80, c_G81, c_G84, c_G85, c_G86, c_G87, c_G88) → LW ws ad kk kd ln (va_up (va_up (va_up (va_up (va_up (va_up (va_up G 80 c2_G80) 81 c2_G81) 84 c2_G84) 85 c2_G85) 86 c2_G86) 87 c2_G87) 88 c2_G88) P U V X O → TYP kd P O (V 0) cnt → va_P (dC, dI) vwCl ws H → va_D A ws → va_S A s.heap H locs → lv_has ls 2 [] → W p l e ({ frames := 6, cells := 0, slots := 0, locals := 142 } : Room) s m args below meth c H locs 0 0 Q (F0 m 36 ls [.int t36_0, .ref (ad this)]) := by
      intro t36_0 ws H locs ls hr hW hT hP hD hS hl
      rw [hj36] at hr
      replace hr := b3S hr
      obtain ⟨r36z, c36_G80, c36_G81, hc36, hr⟩ := hr
      have hFc := fr_all hD hS hA
      obtain ⟨i8, hi8⟩ := hW.o4 hk_this
      refine va_calli (va_runV (As := [.int t36_0]) (rest := []) ⟨hx, hb, hml, hown, hts⟩ (m_X4_isNew l dC dI kk ad H.size ws (va_up (va_up (va_up (va_up (va_up (va_up (va_up G 80 c2_G80) 81 c2_G81) 84 c2_G84) 85 c2_G85) 86 c2_G86) 87 c2_G87) 88 c2_G88) P U V X O kd ln cnt this t36_0 hk_this hW hT r36z c36_G80 c36_G81 hc36) (cwV 1 hts gc_RX4_X4_isNew_147 rfl rfl rfl (by decide +kernel) ⟨Nat.le_of_ble_eq_true rfl, Nat.le_of_ble_eq_true rfl⟩) ⟨fun a U g mk q => by obtain ⟨q0, q1, qP, qK, qD⟩ := q; exact ⟨q0, q1, qP, va_K.moved (u := U) (U := U.calling g mk a) (Vm.Alike.refl U.vm) qK, qD⟩, va_recv hK hP (ci := 4) (q0 := i8) rfl hi8, fun U hU hW => ⟨rfl, by rw [hU], by rw [hU]; exact hP, va_K.moved hW.alike hK, hD.weaken (fun _ _ _ _ => trivial)⟩⟩ rfl rfl hl.1 rfl (lv_room (Nat.le_of_ble_eq_true rfl)) dX4_takeNew_36 ⟨Nat.le_of_ble_eq_true rfl, Nat.le_of_ble_eq_true rfl⟩) hS (fun q _ h => hFc q h) hFc (fun r36 w9 t H1 locs ht hvm hw hB hz1 hk1 hS => ?_)
      obtain ⟨hw0, hW, hT⟩ := hw
      replace hw0 : r36 = r36z := hw0
      subst hw0
      obtain ⟨hP1, hK1, hD1⟩ := hB
      rw [ht] at hP1
      obtain ⟨hP, hD⟩ := jn_all (w1 := w9) hFc hP1 hD1
      replace hP : va_P (dC, dI) vwCl w9 H1 := hP
      replace hD : va_D A w9 := hD
      clear hFc hP1 hK1 hD1 hk1 hz1 ht hvm
      generalize H1 = H at hP hS ⊢
      replace hr := iteS hr
      obtain ⟨hz39, hr⟩ := hr
      have eG : (va_up (va_up (va_up (va_up (va_up (va_up (va_up (va_up (va_up G 80 c2_G80) 81 c2_G81) 84 c2_G84) 85 c2_G85) 86 c2_G86) 87 c2_G87) 88 c2_G88) 80 c36_G80) 81 c36_G81) = (va_up (va_up (va_up (va_up (va_up (va_up (va_up G 80 c36_G80) 81 c36_G81) 84 c2_G84) 85 c2_G85) 86 c2_G86) 87 c2_G87) 88 c2_G88) := by
        funext k
        by_cases h80 : k = 80
        · subst h80; rfl
        by_cases h81 : k = 81
        · subst h81; rfl
        by_cases h84 : k = 84
        · subst h84; rfl
        by_cases h85 : k = 85
        · subst h85; rfl
        by_cases h86 : k = 86
        · subst h86; rfl
        by_cases h87 : k = 87
        · subst h87; rfl
        by_cases h88 : k = 88
        · subst h88; rfl
        · simp only [va_up, h80, h81, h84, h85, h86, h87, h88, if_false]
      rw [eG] at hW
      clear eG
      exact K 39 ls _ _ _ _ _ _ _ _ w9 H _ hr hz39 dX4_takeNew_39 hW hT hP hD hS
    refine lv_icmp_ne (tgt := 35) hx hb dX4_takeNew_28 (by decide) (fun c28 => ?_) (fun c28 => ?_)
    · replace hr := iteF c28 hr
      refine lv_iconst (v := 0) hx hb dX4_takeNew_35 (by decide +kernel) ?_
      exact Jj36 0 w7 H _ ls hr hW hT hP hD hS (lv_sub hl [] rfl)
    · replace hr := iteT c28 hr
      refine lv_iconst (v := 1) hx hb dX4_takeNew_31 (by decide +kernel) ?_
      refine lv_goto (tgt := 36) hx hb dX4_takeNew_32 (by decide) ?_
      exact Jj36 1 w7 H _ ls hr hW hT hP hD hS (lv_sub hl [] rfl)
  · replace hr := iteT c5 hr
    refine lv_iconst (v := 0) hx hb dX4_takeNew_8 (by decide +kernel) ?_
    exact K 9 ls _ _ _ _ _ _ _ _ w2 H _ hr (by decide) dX4_takeNew_9 hW hT hP hD hS
set_option maxHeartbeats 4000000 in
set_option maxRecDepth 100000 in
theorem m_X4_takeNew (l : Launch) (dC : Nat → ClassId) (dI : Nat → Nat → Nat) (kk : Nat → ClassId) (ad : Nat → Nat) (sz : Nat) (ws : va_W) (G : Nat → Nat → Int32) (P : Nat → Nat → Option Nat) (U : Nat → Nat → Int64) (V : Nat → Nat → Nat → Int32) (X : Nat → Nat → Nat → Int64) (O : Nat → Nat → Nat → Option Nat) (kd : Nat → Nat) (ln : Nat → Nat) (cnt : Nat) (this : Nat) (p0 : Nat) (hk_this : kd this = 5) (hk_p0 : kd p0 = 11) (hW : LW ws ad kk kd ln G P U V X O) (hT : TYP kd P O (V 0) cnt) (r : Int32) (c_G80 : Nat → Int32) (c_G81 : Nat → Int32) (c_G84 : Nat → Int32) (c_G85 : Nat → Int32) (c_G86 : Nat → Int32) (c_G87 : Nat → Int32) (c_G88 : Nat → Int32) (hr : f_X4_takeNew G P U V X O kd ln cnt this p0 = some (r, c_G80, c_G81, c_G84, c_G85, c_G86, c_G87, c_G88)) : Met l yX4_takeNew vmX4_takeNew ({ frames := 6, cells := 0, slots := 0, locals := 142 } : Room) (va_Pc [.ref (ad this), .ref (ad p0)] (fun U => U.heap.size = sz ∧ va_P (dC, dI) vwCl ws U.heap ∧ va_K (dC, dI) vwCl (cT kk) U ∧ va_D (fun _ => True) ws)) (va_Qi (fun (rz : Int32) (w : va_W) => rz = r ∧ LW w ad kk kd ln (va_up (va_up (va_up (va_up (va_up (va_up (va_up G 80 c_G80) 81 c_G81) 84 c_G84) 85 c_G85) 86 c_G86) 87 c_G87) 88 c_G88) P U V X O ∧ TYP kd P O (V 0) cnt) (fun w t => va_P (dC, dI) vwCl w t.heap ∧ va_K (dC, dI) vwCl (cT kk) t ∧ va_D (va_A ws sz) w) (va_A ws sz)) 0 0 (va_A ws sz) := by
  refine Met.ofW (cc := cX4_takeNew) (maxL := 2) (ret := (some .boolean)) (by decide) rfl ?_
  intro p e s m args below meth c s₁ B hml hv
  obtain ⟨rfl, hsz, hP, hK, hD0⟩ := hv
  have hx := B.exec
  have hb := B.bytes
  have hrt := B.returns
  have hts := atoms_spec (ws := vmX4_takeNew) B.pre
  have hown : s.vm.findClass RX4 = some m.cls := findClass_of_methodNamed B.named
  subst hsz
  have hD := hD0.self (sz := s.heap.size)
  generalize hAe : va_A ws s.heap.size = A at hD ⊢
  have hA : ∀ q : Nat, s.heap.size ≤ q → A q := fun q h => by rw [← hAe]; exact Or.inr h
  have hS : va_S A s.heap s.heap [] := va_S.rf
  have hl := lv_entry ([.ref (ad this), .ref (ad p0)]) (n := 2) (Nat.le_of_ble_eq_true rfl)
  rw [lg_entry_eq]
  generalize (lg_sl ([.ref (ad this), .ref (ad p0)]) ++ List.replicate (2 - (lg_sl ([.ref (ad this), .ref (ad p0)])).length) Slot.unset).toArray = ls at hl ⊢
  exact bm_X4_takeNew this p0 hk_this hk_p0 r c_G80 c_G81 c_G84 c_G85 c_G86 c_G87 c_G88 hr hx hb hml hown hts hA hK hW hT hP hD hS hl (fun pc ls rz c_G80z c_G81z c_G84z c_G85z c_G86z c_G87z c_G88z ws H locs he hz hd hW hT hP hD hS => by cases he; exact W.zret (v := r) hx hb hrt (z_nb hz) (fun t ht hW9 => ⟨⟨r, ws, rfl, ⟨rfl, hW, hT⟩, by rw [ht]; exact hP, va_K.moved hW9.alike hK, hD⟩, hS.F ht⟩) hS.2.2 hd)
set_option maxHeartbeats 4000000 in
set_option maxRecDepth 100000 in
theorem bm_X4_takeTo {p : Program} {l : Launch} {e : Env} {s : State} {m : MethodId} {args : Array Value} {below : List Frame} {meth : Method} {c : Code} {Q : State → Prop} {A : Nat → Prop} {dC : Nat → ClassId} {dI : Nat → Nat → Nat} {kk : Nat → ClassId} {ad : Nat → Nat} {ws : va_W} {G : Nat → Nat → Int32} {P : Nat → Nat → Option Nat} {U : Nat → Nat → Int64} {V : Nat → Nat → Nat → Int32} {X : Nat → Nat → Nat → Int64} {O : Nat → Nat → Nat → Option Nat} {kd : Nat → Nat} {ln : Nat → Nat} {cnt : Nat} {H : Heap} {locs : List Loc} {ls : Array Slot} (this : Nat) (hk_this : kd this = 5) (r : Int32) (c_G80 : Nat → Int32) (c_G81 : Nat → Int32) (c_G84 : Nat → Int32) (c_G85 : Nat → Int32) (c_G86 : Nat → Int32) (c_G87 : Nat → Int32) (c_G88 : Nat → Int32) (hr : f_X4_takeTo G P U V X O kd ln cnt this = some (r, c_G80, c_G81, c_G84, c_G85, c_G86, c_G87, c_G88)) (hx : p.tables.exec = Jvm.exec) (hb : c.code = cX4_takeTo) (hml : c.maxLocals = 1) (hown : s.vm.findClass RX4 = some m.cls) (hts : ∀ w ∈ vmX4_takeTo, w.before args s = true) (hA : ∀ q : Nat, s.heap.size ≤ q → A q) (hK : va_K (dC, dI) vwCl (cT kk) s) {adK adV : Nat → Nat} (hSE : SE adK adV A s) (hW : LW ws ad kk kd ln G P U V X O) (hT : TYP kd P O (V 0) cnt) (hP : va_P (dC, dI) vwCl ws H) (hD : va_D A ws) (hS : va_S A s.heap H locs) (hl : lv_has ls 1 [(0, .ref (ad this))])
    (K : ∀ (pc : Nat) (ls : Array Slot) (rz : Int32) (c_G80z : Nat → Int32) (c_G81z : Nat → Int32) (c_G84z : Nat → Int32) (c_G85z : Nat → Int32) (c_G86z : Nat → Int32) (c_G87z : Nat → Int32) (c_G88z : Nat → Int32) (ws : va_W) (H : Heap) (locs : List Loc), some (rz, c_G80z, c_G81z, c_G84z, c_G85z, c_G86z, c_G87z, c_G88z) = some (r, c_G80, c_G81, c_G84, c_G85, c_G86, c_G87, c_G88) → is01 rz → decode cX4_takeTo pc = .ok (.ireturn, 1) → LW ws ad kk kd ln (va_up (va_up (va_up (va_up (va_up (va_up (va_up G 80 c_G80z) 81 c_G81z) 84 c_G84z) 85 c_G85z) 86 c_G86z) 87 c_G87z) 88 c_G88z) P U V X O → TYP kd P O (V 0) cnt → va_P (dC, dI) vwCl ws H → va_D A ws → va_S A s.heap H locs → W p l e ({ frames := 7, cells := 0, slots := 0, locals := 362 } : Room) s m args below meth c H locs 0 0 Q (F0 m pc ls [.int rz])) : W p l e ({ frames := 7, cells := 0, slots := 0, locals := 362 } : Room) s m args below meth c H locs 0 0 Q (F0 m 0 ls []) := by
  unfold f_X4_takeTo at hr
  refine lv_aload_n hx hb dX4_takeTo_0 rfl (lv_at hl 0 rfl) ?_
  replace hr := b5S hr
  obtain ⟨c1_G84, c1_G85, c1_G86, c1_G87, c1_G88, hc1, hr⟩ := hr
  have hFc := fr_all hD hS hA
  obtain ⟨i1, hi1⟩ := hW.o4 hk_this
  refine va_callv (va_runV (As := []) (rest := []) ⟨hx, hb, hml, hown, hts⟩ (m_X4_nextToken l dC dI kk ad H.size ws G P U V X O kd ln cnt this hk_this hW hT c1_G84 c1_G85 c1_G86 c1_G87 c1_G88 hc1) (cwV 0 hts gc_RX4_X4_nextToken_46 rfl rfl rfl (by decide +kernel) ⟨Nat.le_of_ble_eq_true rfl, Nat.le_of_ble_eq_true rfl⟩) ⟨fun a U g mk q => by obtain ⟨q0, q1, qP, qK, qD⟩ := q; exact ⟨q0, q1, qP, va_K.moved (u := U) (U := U.calling g mk a) (Vm.Alike.refl U.vm) qK, qD⟩, va_recv hK hP (ci := 4) (q0 := i1) rfl hi1, fun U hU hW => ⟨rfl, by rw [hU], by rw [hU]; exact hP, va_K.moved hW.alike hK, hD.weaken (fun _ _ _ _ => trivial)⟩⟩ rfl rfl hl.1 rfl (lv_room (Nat.le_of_ble_eq_true rfl)) dX4_takeTo_1 ⟨Nat.le_of_ble_eq_true rfl, Nat.le_of_ble_eq_true rfl⟩) hS (fun q _ h => hFc q h) hFc (fun w2 t H1 locs ht hvm hw hB hz1 hk1 hS => ?_)
  obtain ⟨hW, hT⟩ := hw
  obtain ⟨hP1, hK1, hD1⟩ := hB
  rw [ht] at hP1
  obtain ⟨hP, hD⟩ := jn_all (w1 := w2) hFc hP1 hD1
  replace hP : va_P (dC, dI) vwCl w2 H1 := hP
  replace hD : va_D A w2 := hD
  clear hFc hP1 hK1 hD1 hk1 hz1 ht hvm
  generalize H1 = H at hP hS ⊢
  refine lv_aload_n hx hb dX4_takeTo_4 rfl (lv_at hl 0 rfl) ?_
  refine va_ldcS hx hb hown hSE.r8 dX4_takeTo_5 ?_
  replace hr := b1S hr
  obtain ⟨r7z, hc7, hr⟩ := hr
  have hFc := fr_all hD hS hA
  obtain ⟨i3, hi3⟩ := hW.o4 hk_this
  refine va_calli (va_runV (As := [.ref (adK 8)]) (rest := []) ⟨hx, hb, hml, hown, hts⟩ (m_X4_wordIs l dC dI adK adV kk ad H.size w2 (va_up (va_up (va_up (va_up (va_up G 84 c1_G84) 85 c1_G85) 86 c1_G86) 87 c1_G87) 88 c1_G88) P U V X O kd ln cnt this 8 hk_this (by decide) hW hT r7z hc7) (cwV 1 hts gc_RX4_X4_wordIs_51 rfl rfl rfl (by decide +kernel) ⟨Nat.le_of_ble_eq_true rfl, Nat.le_of_ble_eq_true rfl⟩) ⟨fun a U g mk q => by obtain ⟨q0, q1, qP, qK, qD, qS⟩ := q; exact ⟨q0, q1, qP, va_K.moved (u := U) (U := U.calling g mk a) (Vm.Alike.refl U.vm) qK, qD, qS.calling⟩, va_recv hK hP (ci := 4) (q0 := i3) rfl hi3, fun U hU hW => ⟨rfl, by rw [hU], by rw [hU]; exact hP, va_K.moved hW.alike hK, hD.weaken (fun _ _ _ _ => trivial), (hSE.warm hS hU hW).narrow hFc⟩⟩ rfl rfl hl.1 rfl (lv_room (Nat.le_of_ble_eq_true rfl)) dX4_takeTo_7 ⟨Nat.le_of_ble_eq_true rfl, Nat.le_of_ble_eq_true rfl⟩) hS (fun q _ h => hFc q h) hFc (fun r7 w4 t H1 locs ht hvm hw hB hz1 hk1 hS => ?_)
  obtain ⟨hw0, hW, hT⟩ := hw
  replace hw0 : r7 = r7z := hw0
  subst hw0
  obtain ⟨hP1, hK1, hD1⟩ := hB
  rw [ht] at hP1
  obtain ⟨hP, hD⟩ := jn_all (w1 := w4) hFc hP1 hD1
  replace hP : va_P (dC, dI) vwCl w4 H1 := hP
  replace hD : va_D A w4 := hD
  clear hFc hP1 hK1 hD1 hk1 hz1 ht hvm
  generalize H1 = H at hP hS ⊢
  replace hr := jnS hr
  obtain ⟨j26, hj26, hr⟩ := hr
  have Jj26 : ∀ (t26_0 : Int32) (c26_G80 : Nat → Int32) (c26_G81 : Nat → Int32) (ws : va_W) (H : Heap) (locs : List Loc) (ls : Array Slot), j26 t26_0 c26_G80 c26_G81 = some (r, c_G80, c_G81, c_G84, c_G85, c_G86, c_G87, c_G88) → LW ws ad kk kd ln (va_up (va_up (va_up (va_up (va_up (va_up (va_up G 80 c26_G80) 81 c26_G81) 84 c1_G84) 85 c1_G85) 86 c1_G86) 87 c1_G87) 88 c1_G88) P U V X O → TYP kd P O (V 0) cnt → va_P (dC, dI) vwCl ws H → va_D A ws → va_S A s.heap H locs → lv_has ls 1 [] → W p l e ({ frames := 7, cells := 0, slots := 0, locals := 362 } : Room) s m args below meth c H locs 0 0 Q (F0 m 26 ls [.int t26_0]) := by
    intro t26_0 c26_G80 c26_G81 ws H locs ls hr hW hT hP hD hS hl
    rw [hj26] at hr
    replace hr := iteS hr
    obtain ⟨hz26, hr⟩ := hr
    exact K 26 ls _ _ _ _ _ _ _ _ ws H _ hr hz26 dX4_takeTo_26 hW hT hP hD hS
  replace hr := jnS hr
  obtain ⟨j21, hj21, hr⟩ := hr
  have Jj21 : ∀ (c21_G80 : Nat → Int32) (c21_G81 : Nat → Int32) (ws : va_W) (H : Heap) (locs : List Loc) (ls : Array Slot), j21 c21_G80 c21_G81 = some (r, c_G80, c_G81, c_G84, c_G85, c_G86, c_G87, c_G88) → LW ws ad kk kd ln (va_up (va_up (va_up (va_up (va_up (va_up (va_up G 80 c21_G80) 81 c21_G81) 84 c1_G84) 85 c1_G85) 86 c1_G86) 87 c1_G87) 88 c1_G88) P U V X O → TYP kd P O (V 0) cnt → va_P (dC, dI) vwCl ws H → va_D A ws → va_S A s.heap H locs → lv_has ls 1 [] → W p l e ({ frames := 7, cells := 0, slots := 0, locals := 362 } : Room) s m args below meth c H locs 0 0 Q (F0 m 21 ls []) := by
    intro c21_G80 c21_G81 ws H locs ls hr hW hT hP hD hS hl
    rw [hj21] at hr
    refine lv_iconst (v := 1) hx hb dX4_takeTo_21 (by decide +kernel) ?_
    refine lv_goto (tgt := 26) hx hb dX4_takeTo_22 (by decide) ?_
    exact Jj26 1 c21_G80 c21_G81 ws H _ ls hr hW hT hP hD hS (lv_sub hl [] rfl)
  refine lv_if_ne (tgt := 21) hx hb dX4_takeTo_10 (by decide) (fun c10 => ?_) (fun c10 => ?_)
  · replace hr := iteF c10 hr
    have eG : (va_up (va_up (va_up (va_up (va_up G 84 c1_G84) 85 c1_G85) 86 c1_G86) 87 c1_G87) 88 c1_G88) = (va_up (va_up (va_up (va_up (va_up (va_up (va_up G 80 (G 80)) 81 (G 81)) 84 c1_G84) 85 c1_G85) 86 c1_G86) 87 c1_G87) 88 c1_G88) := by
      funext k
      by_cases h80 : k = 80
      · subst h80; rfl
      by_cases h81 : k = 81
      · subst h81; rfl
      by_cases h84 : k = 84
      · subst h84; rfl
      by_cases h85 : k = 85
      · subst h85; rfl
      by_cases h86 : k = 86
      · subst h86; rfl
      by_cases h87 : k = 87
      · subst h87; rfl
      by_cases h88 : k = 88
      · subst h88; rfl
      · simp only [va_up, h80, h81, h84, h85, h86, h87, h88, if_false]
    rw [eG] at hW
    clear eG
    exact Jj21 (G 80) (G 81) w4 H _ ls hr hW hT hP hD hS (lv_sub hl [] rfl)
  · replace hr := iteT c10 hr
    refine lv_aload_n hx hb dX4_takeTo_13 rfl (lv_at hl 0 rfl) ?_
    refine lv_iconst (v := 1) hx hb dX4_takeTo_14 (by decide +kernel) ?_
    replace hr := b3S hr
    obtain ⟨r15z, c15_G80, c15_G81, hc15, hr⟩ := hr
    have hFc := fr_all hD hS hA
    obtain ⟨i5, hi5⟩ := hW.o4 hk_this
    refine va_calli (va_runV (As := [.int 1]) (rest := []) ⟨hx, hb, hml, hown, hts⟩ (m_X4_blame l dC dI kk ad H.size w4 (va_up (va_up (va_up (va_up (va_up G 84 c1_G84) 85 c1_G85) 86 c1_G86) 87 c1_G87) 88 c1_G88) P U V X O kd ln cnt this 1 hk_this hW hT r15z c15_G80 c15_G81 hc15) (cwV 1 hts gc_RX4_X4_blame_74 rfl rfl rfl (by decide +kernel) ⟨Nat.le_of_ble_eq_true rfl, Nat.le_of_ble_eq_true rfl⟩) ⟨fun a U g mk q => by obtain ⟨q0, q1, qP, qK, qD⟩ := q; exact ⟨q0, q1, qP, va_K.moved (u := U) (U := U.calling g mk a) (Vm.Alike.refl U.vm) qK, qD⟩, va_recv hK hP (ci := 4) (q0 := i5) rfl hi5, fun U hU hW => ⟨rfl, by rw [hU], by rw [hU]; exact hP, va_K.moved hW.alike hK, hD.weaken (fun _ _ _ _ => trivial)⟩⟩ rfl rfl hl.1 rfl (lv_room (Nat.le_of_ble_eq_true rfl)) dX4_takeTo_15 ⟨Nat.le_of_ble_eq_true rfl, Nat.le_of_ble_eq_true rfl⟩) hS (fun q _ h => hFc q h) hFc (fun r15 w6 t H1 locs ht hvm hw hB hz1 hk1 hS => ?_)
    obtain ⟨hw0, hW, hT⟩ := hw
    replace hw0 : r15 = r15z := hw0
    subst hw0
    obtain ⟨hP1, hK1, hD1⟩ := hB
    rw [ht] at hP1
    obtain ⟨hP, hD⟩ := jn_all (w1 := w6) hFc hP1 hD1
    replace hP : va_P (dC, dI) vwCl w6 H1 := hP
    replace hD : va_D A w6 := hD
    clear hFc hP1 hK1 hD1 hk1 hz1 ht hvm
    generalize H1 = H at hP hS ⊢
    refine lv_if_eq (tgt := 25) hx hb dX4_takeTo_18 (by decide) (fun c18 => ?_) (fun c18 => ?_)
    · replace hr := iteT c18 hr
      refine lv_iconst (v := 0) hx hb dX4_takeTo_25 (by decide +kernel) ?_
      have eG : (va_up (va_up (va_up (va_up (va_up (va_up (va_up G 84 c1_G84) 85 c1_G85) 86 c1_G86) 87 c1_G87) 88 c1_G88) 80 c15_G80) 81 c15_G81) = (va_up (va_up (va_up (va_up (va_up (va_up (va_up G 80 c15_G80) 81 c15_G81) 84 c1_G84) 85 c1_G85) 86 c1_G86) 87 c1_G87) 88 c1_G88) := by
        funext k
        by_cases h80 : k = 80
        · subst h80; rfl
        by_cases h81 : k = 81
        · subst h81; rfl
        by_cases h84 : k = 84
        · subst h84; rfl
        by_cases h85 : k = 85
        · subst h85; rfl
        by_cases h86 : k = 86
        · subst h86; rfl
        by_cases h87 : k = 87
        · subst h87; rfl
        by_cases h88 : k = 88
        · subst h88; rfl
        · simp only [va_up, h80, h81, h84, h85, h86, h87, h88, if_false]
      rw [eG] at hW
      clear eG
      exact Jj26 0 c15_G80 c15_G81 w6 H _ ls hr hW hT hP hD hS (lv_sub hl [] rfl)
    · replace hr := iteF c18 hr
      have eG : (va_up (va_up (va_up (va_up (va_up (va_up (va_up G 84 c1_G84) 85 c1_G85) 86 c1_G86) 87 c1_G87) 88 c1_G88) 80 c15_G80) 81 c15_G81) = (va_up (va_up (va_up (va_up (va_up (va_up (va_up G 80 c15_G80) 81 c15_G81) 84 c1_G84) 85 c1_G85) 86 c1_G86) 87 c1_G87) 88 c1_G88) := by
        funext k
        by_cases h80 : k = 80
        · subst h80; rfl
        by_cases h81 : k = 81
        · subst h81; rfl
        by_cases h84 : k = 84
        · subst h84; rfl
        by_cases h85 : k = 85
        · subst h85; rfl
        by_cases h86 : k = 86
        · subst h86; rfl
        by_cases h87 : k = 87
        · subst h87; rfl
        by_cases h88 : k = 88
        · subst h88; rfl
        · simp only [va_up, h80, h81, h84, h85, h86, h87, h88, if_false]
      rw [eG] at hW
      clear eG
      exact Jj21 c15_G80 c15_G81 w6 H _ ls hr hW hT hP hD hS (lv_sub hl [] rfl)
set_option maxHeartbeats 4000000 in
set_option maxRecDepth 100000 in
theorem m_X4_takeTo (l : Launch) (dC : Nat → ClassId) (dI : Nat → Nat → Nat) (adK adV : Nat → Nat) (kk : Nat → ClassId) (ad : Nat → Nat) (sz : Nat) (ws : va_W) (G : Nat → Nat → Int32) (P : Nat → Nat → Option Nat) (U : Nat → Nat → Int64) (V : Nat → Nat → Nat → Int32) (X : Nat → Nat → Nat → Int64) (O : Nat → Nat → Nat → Option Nat) (kd : Nat → Nat) (ln : Nat → Nat) (cnt : Nat) (this : Nat) (hk_this : kd this = 5) (hW : LW ws ad kk kd ln G P U V X O) (hT : TYP kd P O (V 0) cnt) (r : Int32) (c_G80 : Nat → Int32) (c_G81 : Nat → Int32) (c_G84 : Nat → Int32) (c_G85 : Nat → Int32) (c_G86 : Nat → Int32) (c_G87 : Nat → Int32) (c_G88 : Nat → Int32) (hr : f_X4_takeTo G P U V X O kd ln cnt this = some (r, c_G80, c_G81, c_G84, c_G85, c_G86, c_G87, c_G88)) : Met l yX4_takeTo vmX4_takeTo ({ frames := 7, cells := 0, slots := 0, locals := 362 } : Room) (va_Pc [.ref (ad this)] (fun U => U.heap.size = sz ∧ va_P (dC, dI) vwCl ws U.heap ∧ va_K (dC, dI) vwCl (cT kk) U ∧ va_D (fun _ => True) ws ∧ SE adK adV (va_A ws sz) U)) (va_Qi (fun (rz : Int32) (w : va_W) => rz = r ∧ LW w ad kk kd ln (va_up (va_up (va_up (va_up (va_up (va_up (va_up G 80 c_G80) 81 c_G81) 84 c_G84) 85 c_G85) 86 c_G86) 87 c_G87) 88 c_G88) P U V X O ∧ TYP kd P O (V 0) cnt) (fun w t => va_P (dC, dI) vwCl w t.heap ∧ va_K (dC, dI) vwCl (cT kk) t ∧ va_D (va_A ws sz) w) (va_A ws sz)) 0 0 (va_A ws sz) := by
  refine Met.ofW (cc := cX4_takeTo) (maxL := 1) (ret := (some .boolean)) (by decide) rfl ?_
  intro p e s m args below meth c s₁ B hml hv
  obtain ⟨rfl, hsz, hP, hK, hD0, hSE⟩ := hv
  have hx := B.exec
  have hb := B.bytes
  have hrt := B.returns
  have hts := atoms_spec (ws := vmX4_takeTo) B.pre
  have hown : s.vm.findClass RX4 = some m.cls := findClass_of_methodNamed B.named
  subst hsz
  have hD := hD0.self (sz := s.heap.size)
  generalize hAe : va_A ws s.heap.size = A at hD hSE ⊢
  have hA : ∀ q : Nat, s.heap.size ≤ q → A q := fun q h => by rw [← hAe]; exact Or.inr h
  have hS : va_S A s.heap s.heap [] := va_S.rf
  have hl := lv_entry ([.ref (ad this)]) (n := 1) (Nat.le_of_ble_eq_true rfl)
  rw [lg_entry_eq]
  generalize (lg_sl ([.ref (ad this)]) ++ List.replicate (1 - (lg_sl ([.ref (ad this)])).length) Slot.unset).toArray = ls at hl ⊢
  exact bm_X4_takeTo this hk_this r c_G80 c_G81 c_G84 c_G85 c_G86 c_G87 c_G88 hr hx hb hml hown hts hA hK hSE hW hT hP hD hS hl (fun pc ls rz c_G80z c_G81z c_G84z c_G85z c_G86z c_G87z c_G88z ws H locs he hz hd hW hT hP hD hS => by cases he; exact W.zret (v := r) hx hb hrt (z_nb hz) (fun t ht hW9 => ⟨⟨r, ws, rfl, ⟨rfl, hW, hT⟩, by rw [ht]; exact hP, va_K.moved hW9.alike hK, hD⟩, hS.F ht⟩) hS.2.2 hd)
set_option maxHeartbeats 4000000 in
set_option maxRecDepth 100000 in
theorem bm_X4_takeClose {p : Program} {l : Launch} {e : Env} {s : State} {m : MethodId} {args : Array Value} {below : List Frame} {meth : Method} {c : Code} {Q : State → Prop} {A : Nat → Prop} {dC : Nat → ClassId} {dI : Nat → Nat → Nat} {kk : Nat → ClassId} {ad : Nat → Nat} {ws : va_W} {G : Nat → Nat → Int32} {P : Nat → Nat → Option Nat} {U : Nat → Nat → Int64} {V : Nat → Nat → Nat → Int32} {X : Nat → Nat → Nat → Int64} {O : Nat → Nat → Nat → Option Nat} {kd : Nat → Nat} {ln : Nat → Nat} {cnt : Nat} {H : Heap} {locs : List Loc} {ls : Array Slot} (this : Nat) (hk_this : kd this = 5) (r : Int32) (c_G80 : Nat → Int32) (c_G81 : Nat → Int32) (c_G84 : Nat → Int32) (c_G85 : Nat → Int32) (c_G86 : Nat → Int32) (c_G87 : Nat → Int32) (c_G88 : Nat → Int32) (hr : f_X4_takeClose G P U V X O kd ln cnt this = some (r, c_G80, c_G81, c_G84, c_G85, c_G86, c_G87, c_G88)) (hx : p.tables.exec = Jvm.exec) (hb : c.code = cX4_takeClose) (hml : c.maxLocals = 1) (hown : s.vm.findClass RX4 = some m.cls) (hts : ∀ w ∈ vmX4_takeClose, w.before args s = true) (hA : ∀ q : Nat, s.heap.size ≤ q → A q) (hK : va_K (dC, dI) vwCl (cT kk) s) (hW : LW ws ad kk kd ln G P U V X O) (hT : TYP kd P O (V 0) cnt) (hP : va_P (dC, dI) vwCl ws H) (hD : va_D A ws) (hS : va_S A s.heap H locs) (hl : lv_has ls 1 [(0, .ref (ad this))])
    (K : ∀ (pc : Nat) (ls : Array Slot) (rz : Int32) (c_G80z : Nat → Int32) (c_G81z : Nat → Int32) (c_G84z : Nat → Int32) (c_G85z : Nat → Int32) (c_G86z : Nat → Int32) (c_G87z : Nat → Int32) (c_G88z : Nat → Int32) (ws : va_W) (H : Heap) (locs : List Loc), some (rz, c_G80z, c_G81z, c_G84z, c_G85z, c_G86z, c_G87z, c_G88z) = some (r, c_G80, c_G81, c_G84, c_G85, c_G86, c_G87, c_G88) → is01 rz → decode cX4_takeClose pc = .ok (.ireturn, 1) → LW ws ad kk kd ln (va_up (va_up (va_up (va_up (va_up (va_up (va_up G 80 c_G80z) 81 c_G81z) 84 c_G84z) 85 c_G85z) 86 c_G86z) 87 c_G87z) 88 c_G88z) P U V X O → TYP kd P O (V 0) cnt → va_P (dC, dI) vwCl ws H → va_D A ws → va_S A s.heap H locs → W p l e ({ frames := 5, cells := 0, slots := 0, locals := 121 } : Room) s m args below meth c H locs 0 0 Q (F0 m pc ls [.int rz])) : W p l e ({ frames := 5, cells := 0, slots := 0, locals := 121 } : Room) s m args below meth c H locs 0 0 Q (F0 m 0 ls []) := by
  unfold f_X4_takeClose at hr
  refine lv_aload_n hx hb dX4_takeClose_0 rfl (lv_at hl 0 rfl) ?_
  replace hr := b5S hr
  obtain ⟨c1_G84, c1_G85, c1_G86, c1_G87, c1_G88, hc1, hr⟩ := hr
  have hFc := fr_all hD hS hA
  obtain ⟨i1, hi1⟩ := hW.o4 hk_this
  refine va_callv (va_runV (As := []) (rest := []) ⟨hx, hb, hml, hown, hts⟩ (m_X4_nextToken l dC dI kk ad H.size ws G P U V X O kd ln cnt this hk_this hW hT c1_G84 c1_G85 c1_G86 c1_G87 c1_G88 hc1) (cwV 0 hts gc_RX4_X4_nextToken_46 rfl rfl rfl (by decide +kernel) ⟨Nat.le_of_ble_eq_true rfl, Nat.le_of_ble_eq_true rfl⟩) ⟨fun a U g mk q => by obtain ⟨q0, q1, qP, qK, qD⟩ := q; exact ⟨q0, q1, qP, va_K.moved (u := U) (U := U.calling g mk a) (Vm.Alike.refl U.vm) qK, qD⟩, va_recv hK hP (ci := 4) (q0 := i1) rfl hi1, fun U hU hW => ⟨rfl, by rw [hU], by rw [hU]; exact hP, va_K.moved hW.alike hK, hD.weaken (fun _ _ _ _ => trivial)⟩⟩ rfl rfl hl.1 rfl (lv_room (Nat.le_of_ble_eq_true rfl)) dX4_takeClose_1 ⟨Nat.le_of_ble_eq_true rfl, Nat.le_of_ble_eq_true rfl⟩) hS (fun q _ h => hFc q h) hFc (fun w2 t H1 locs ht hvm hw hB hz1 hk1 hS => ?_)
  obtain ⟨hW, hT⟩ := hw
  obtain ⟨hP1, hK1, hD1⟩ := hB
  rw [ht] at hP1
  obtain ⟨hP, hD⟩ := jn_all (w1 := w2) hFc hP1 hD1
  replace hP : va_P (dC, dI) vwCl w2 H1 := hP
  replace hD : va_D A w2 := hD
  clear hFc hP1 hK1 hD1 hk1 hz1 ht hvm
  generalize H1 = H at hP hS ⊢
  refine lv_aload_n hx hb dX4_takeClose_4 rfl (lv_at hl 0 rfl) ?_
  obtain ⟨i3, hi3⟩ := hW.o4 hk_this
  refine va_get (D := (dC, dI)) (ci := 4) (v := .int (c1_G85 this)) (C := RX4) (T := TX4) (N := 9) hx hb hts inX4 hown hK hP i3 hi3 rfl 5 (by decide) (hts (.fieldLink RX4 28 "SpellTurner$Reader" "token" "I") ic_360) (fun _ h9 => h9) rfl dX4_takeClose_5 ?_
  refine lv_iconst (v := 3) hx hb dX4_takeClose_8 (by decide +kernel) ?_
  replace hr := jnS hr
  obtain ⟨j25, hj25, hr⟩ := hr
  have Jj25 : ∀ (t25_0 : Int32) (c25_G80 : Nat → Int32) (c25_G81 : Nat → Int32) (ws : va_W) (H : Heap) (locs : List Loc) (ls : Array Slot), j25 t25_0 c25_G80 c25_G81 = some (r, c_G80, c_G81, c_G84, c_G85, c_G86, c_G87, c_G88) → LW ws ad kk kd ln (va_up (va_up (va_up (va_up (va_up (va_up (va_up G 80 c25_G80) 81 c25_G81) 84 c1_G84) 85 c1_G85) 86 c1_G86) 87 c1_G87) 88 c1_G88) P U V X O → TYP kd P O (V 0) cnt → va_P (dC, dI) vwCl ws H → va_D A ws → va_S A s.heap H locs → lv_has ls 1 [] → W p l e ({ frames := 5, cells := 0, slots := 0, locals := 121 } : Room) s m args below meth c H locs 0 0 Q (F0 m 25 ls [.int t25_0]) := by
    intro t25_0 c25_G80 c25_G81 ws H locs ls hr hW hT hP hD hS hl
    rw [hj25] at hr
    replace hr := iteS hr
    obtain ⟨hz25, hr⟩ := hr
    exact K 25 ls _ _ _ _ _ _ _ _ ws H _ hr hz25 dX4_takeClose_25 hW hT hP hD hS
  replace hr := jnS hr
  obtain ⟨j20, hj20, hr⟩ := hr
  have Jj20 : ∀ (c20_G80 : Nat → Int32) (c20_G81 : Nat → Int32) (ws : va_W) (H : Heap) (locs : List Loc) (ls : Array Slot), j20 c20_G80 c20_G81 = some (r, c_G80, c_G81, c_G84, c_G85, c_G86, c_G87, c_G88) → LW ws ad kk kd ln (va_up (va_up (va_up (va_up (va_up (va_up (va_up G 80 c20_G80) 81 c20_G81) 84 c1_G84) 85 c1_G85) 86 c1_G86) 87 c1_G87) 88 c1_G88) P U V X O → TYP kd P O (V 0) cnt → va_P (dC, dI) vwCl ws H → va_D A ws → va_S A s.heap H locs → lv_has ls 1 [] → W p l e ({ frames := 5, cells := 0, slots := 0, locals := 121 } : Room) s m args below meth c H locs 0 0 Q (F0 m 20 ls []) := by
    intro c20_G80 c20_G81 ws H locs ls hr hW hT hP hD hS hl
    rw [hj20] at hr
    refine lv_iconst (v := 1) hx hb dX4_takeClose_20 (by decide +kernel) ?_
    refine lv_goto (tgt := 25) hx hb dX4_takeClose_21 (by decide) ?_
    exact Jj25 1 c20_G80 c20_G81 ws H _ ls hr hW hT hP hD hS (lv_sub hl [] rfl)
  refine lv_icmp_eq (tgt := 20) hx hb dX4_takeClose_9 (by decide) (fun c9 => ?_) (fun c9 => ?_)
  · replace hr := iteT c9 hr
    have eG : (va_up (va_up (va_up (va_up (va_up G 84 c1_G84) 85 c1_G85) 86 c1_G86) 87 c1_G87) 88 c1_G88) = (va_up (va_up (va_up (va_up (va_up (va_up (va_up G 80 (G 80)) 81 (G 81)) 84 c1_G84) 85 c1_G85) 86 c1_G86) 87 c1_G87) 88 c1_G88) := by
      funext k
      by_cases h80 : k = 80
      · subst h80; rfl
      by_cases h81 : k = 81
      · subst h81; rfl
      by_cases h84 : k = 84
      · subst h84; rfl
      by_cases h85 : k = 85
      · subst h85; rfl
      by_cases h86 : k = 86
      · subst h86; rfl
      by_cases h87 : k = 87
      · subst h87; rfl
      by_cases h88 : k = 88
      · subst h88; rfl
      · simp only [va_up, h80, h81, h84, h85, h86, h87, h88, if_false]
    rw [eG] at hW
    clear eG
    exact Jj20 (G 80) (G 81) w2 H _ ls hr hW hT hP hD hS (lv_sub hl [] rfl)
  · replace hr := iteF c9 hr
    refine lv_aload_n hx hb dX4_takeClose_12 rfl (lv_at hl 0 rfl) ?_
    refine lv_iconst (v := 1) hx hb dX4_takeClose_13 (by decide +kernel) ?_
    replace hr := b3S hr
    obtain ⟨r14z, c14_G80, c14_G81, hc14, hr⟩ := hr
    have hFc := fr_all hD hS hA
    obtain ⟨i4, hi4⟩ := hW.o4 hk_this
    refine va_calli (va_runV (As := [.int 1]) (rest := []) ⟨hx, hb, hml, hown, hts⟩ (m_X4_blame l dC dI kk ad H.size w2 (va_up (va_up (va_up (va_up (va_up G 84 c1_G84) 85 c1_G85) 86 c1_G86) 87 c1_G87) 88 c1_G88) P U V X O kd ln cnt this 1 hk_this hW hT r14z c14_G80 c14_G81 hc14) (cwV 1 hts gc_RX4_X4_blame_74 rfl rfl rfl (by decide +kernel) ⟨Nat.le_of_ble_eq_true rfl, Nat.le_of_ble_eq_true rfl⟩) ⟨fun a U g mk q => by obtain ⟨q0, q1, qP, qK, qD⟩ := q; exact ⟨q0, q1, qP, va_K.moved (u := U) (U := U.calling g mk a) (Vm.Alike.refl U.vm) qK, qD⟩, va_recv hK hP (ci := 4) (q0 := i4) rfl hi4, fun U hU hW => ⟨rfl, by rw [hU], by rw [hU]; exact hP, va_K.moved hW.alike hK, hD.weaken (fun _ _ _ _ => trivial)⟩⟩ rfl rfl hl.1 rfl (lv_room (Nat.le_of_ble_eq_true rfl)) dX4_takeClose_14 ⟨Nat.le_of_ble_eq_true rfl, Nat.le_of_ble_eq_true rfl⟩) hS (fun q _ h => hFc q h) hFc (fun r14 w5 t H1 locs ht hvm hw hB hz1 hk1 hS => ?_)
    obtain ⟨hw0, hW, hT⟩ := hw
    replace hw0 : r14 = r14z := hw0
    subst hw0
    obtain ⟨hP1, hK1, hD1⟩ := hB
    rw [ht] at hP1
    obtain ⟨hP, hD⟩ := jn_all (w1 := w5) hFc hP1 hD1
    replace hP : va_P (dC, dI) vwCl w5 H1 := hP
    replace hD : va_D A w5 := hD
    clear hFc hP1 hK1 hD1 hk1 hz1 ht hvm
    generalize H1 = H at hP hS ⊢
    refine lv_if_eq (tgt := 24) hx hb dX4_takeClose_17 (by decide) (fun c17 => ?_) (fun c17 => ?_)
    · replace hr := iteT c17 hr
      refine lv_iconst (v := 0) hx hb dX4_takeClose_24 (by decide +kernel) ?_
      have eG : (va_up (va_up (va_up (va_up (va_up (va_up (va_up G 84 c1_G84) 85 c1_G85) 86 c1_G86) 87 c1_G87) 88 c1_G88) 80 c14_G80) 81 c14_G81) = (va_up (va_up (va_up (va_up (va_up (va_up (va_up G 80 c14_G80) 81 c14_G81) 84 c1_G84) 85 c1_G85) 86 c1_G86) 87 c1_G87) 88 c1_G88) := by
        funext k
        by_cases h80 : k = 80
        · subst h80; rfl
        by_cases h81 : k = 81
        · subst h81; rfl
        by_cases h84 : k = 84
        · subst h84; rfl
        by_cases h85 : k = 85
        · subst h85; rfl
        by_cases h86 : k = 86
        · subst h86; rfl
        by_cases h87 : k = 87
        · subst h87; rfl
        by_cases h88 : k = 88
        · subst h88; rfl
        · simp only [va_up, h80, h81, h84, h85, h86, h87, h88, if_false]
      rw [eG] at hW
      clear eG
      exact Jj25 0 c14_G80 c14_G81 w5 H _ ls hr hW hT hP hD hS (lv_sub hl [] rfl)
    · replace hr := iteF c17 hr
      have eG : (va_up (va_up (va_up (va_up (va_up (va_up (va_up G 84 c1_G84) 85 c1_G85) 86 c1_G86) 87 c1_G87) 88 c1_G88) 80 c14_G80) 81 c14_G81) = (va_up (va_up (va_up (va_up (va_up (va_up (va_up G 80 c14_G80) 81 c14_G81) 84 c1_G84) 85 c1_G85) 86 c1_G86) 87 c1_G87) 88 c1_G88) := by
        funext k
        by_cases h80 : k = 80
        · subst h80; rfl
        by_cases h81 : k = 81
        · subst h81; rfl
        by_cases h84 : k = 84
        · subst h84; rfl
        by_cases h85 : k = 85
        · subst h85; rfl
        by_cases h86 : k = 86
        · subst h86; rfl
        by_cases h87 : k = 87
        · subst h87; rfl
        by_cases h88 : k = 88
        · subst h88; rfl
        · simp only [va_up, h80, h81, h84, h85, h86, h87, h88, if_false]
      rw [eG] at hW
      clear eG
      exact Jj20 c14_G80 c14_G81 w5 H _ ls hr hW hT hP hD hS (lv_sub hl [] rfl)
set_option maxHeartbeats 4000000 in
set_option maxRecDepth 100000 in
theorem m_X4_takeClose (l : Launch) (dC : Nat → ClassId) (dI : Nat → Nat → Nat) (kk : Nat → ClassId) (ad : Nat → Nat) (sz : Nat) (ws : va_W) (G : Nat → Nat → Int32) (P : Nat → Nat → Option Nat) (U : Nat → Nat → Int64) (V : Nat → Nat → Nat → Int32) (X : Nat → Nat → Nat → Int64) (O : Nat → Nat → Nat → Option Nat) (kd : Nat → Nat) (ln : Nat → Nat) (cnt : Nat) (this : Nat) (hk_this : kd this = 5) (hW : LW ws ad kk kd ln G P U V X O) (hT : TYP kd P O (V 0) cnt) (r : Int32) (c_G80 : Nat → Int32) (c_G81 : Nat → Int32) (c_G84 : Nat → Int32) (c_G85 : Nat → Int32) (c_G86 : Nat → Int32) (c_G87 : Nat → Int32) (c_G88 : Nat → Int32) (hr : f_X4_takeClose G P U V X O kd ln cnt this = some (r, c_G80, c_G81, c_G84, c_G85, c_G86, c_G87, c_G88)) : Met l yX4_takeClose vmX4_takeClose ({ frames := 5, cells := 0, slots := 0, locals := 121 } : Room) (va_Pc [.ref (ad this)] (fun U => U.heap.size = sz ∧ va_P (dC, dI) vwCl ws U.heap ∧ va_K (dC, dI) vwCl (cT kk) U ∧ va_D (fun _ => True) ws)) (va_Qi (fun (rz : Int32) (w : va_W) => rz = r ∧ LW w ad kk kd ln (va_up (va_up (va_up (va_up (va_up (va_up (va_up G 80 c_G80) 81 c_G81) 84 c_G84) 85 c_G85) 86 c_G86) 87 c_G87) 88 c_G88) P U V X O ∧ TYP kd P O (V 0) cnt) (fun w t => va_P (dC, dI) vwCl w t.heap ∧ va_K (dC, dI) vwCl (cT kk) t ∧ va_D (va_A ws sz) w) (va_A ws sz)) 0 0 (va_A ws sz) := by
  refine Met.ofW (cc := cX4_takeClose) (maxL := 1) (ret := (some .boolean)) (by decide) rfl ?_
  intro p e s m args below meth c s₁ B hml hv
  obtain ⟨rfl, hsz, hP, hK, hD0⟩ := hv
  have hx := B.exec
  have hb := B.bytes
  have hrt := B.returns
  have hts := atoms_spec (ws := vmX4_takeClose) B.pre
  have hown : s.vm.findClass RX4 = some m.cls := findClass_of_methodNamed B.named
  subst hsz
  have hD := hD0.self (sz := s.heap.size)
  generalize hAe : va_A ws s.heap.size = A at hD ⊢
  have hA : ∀ q : Nat, s.heap.size ≤ q → A q := fun q h => by rw [← hAe]; exact Or.inr h
  have hS : va_S A s.heap s.heap [] := va_S.rf
  have hl := lv_entry ([.ref (ad this)]) (n := 1) (Nat.le_of_ble_eq_true rfl)
  rw [lg_entry_eq]
  generalize (lg_sl ([.ref (ad this)]) ++ List.replicate (1 - (lg_sl ([.ref (ad this)])).length) Slot.unset).toArray = ls at hl ⊢
  exact bm_X4_takeClose this hk_this r c_G80 c_G81 c_G84 c_G85 c_G86 c_G87 c_G88 hr hx hb hml hown hts hA hK hW hT hP hD hS hl (fun pc ls rz c_G80z c_G81z c_G84z c_G85z c_G86z c_G87z c_G88z ws H locs he hz hd hW hT hP hD hS => by cases he; exact W.zret (v := r) hx hb hrt (z_nb hz) (fun t ht hW9 => ⟨⟨r, ws, rfl, ⟨rfl, hW, hT⟩, by rw [ht]; exact hP, va_K.moved hW9.alike hK, hD⟩, hS.F ht⟩) hS.2.2 hd)
set_option maxHeartbeats 4000000 in
set_option maxRecDepth 100000 in
theorem bm_X4_readKeep {p : Program} {l : Launch} {e : Env} {s : State} {m : MethodId} {args : Array Value} {below : List Frame} {meth : Method} {c : Code} {Q : State → Prop} {A : Nat → Prop} {dC : Nat → ClassId} {dI : Nat → Nat → Nat} {kk : Nat → ClassId} {ad : Nat → Nat} {ws : va_W} {G : Nat → Nat → Int32} {P : Nat → Nat → Option Nat} {U : Nat → Nat → Int64} {V : Nat → Nat → Nat → Int32} {X : Nat → Nat → Nat → Int64} {O : Nat → Nat → Nat → Option Nat} {kd : Nat → Nat} {ln : Nat → Nat} {cnt : Nat} {H : Heap} {locs : List Loc} {ls : Array Slot} (this : Nat) (p0 : Nat) (hk_this : kd this = 5) (hk_p0 : kd p0 = 6) (c_G80 : Nat → Int32) (c_G81 : Nat → Int32) (c_G84 : Nat → Int32) (c_G85 : Nat → Int32) (c_G86 : Nat → Int32) (c_G87 : Nat → Int32) (c_G88 : Nat → Int32) (c_G107 : Nat → Int32) (c_G203 : Nat → Int32) (c_V0 : Nat → Nat → Int32) (c_V1 : Nat → Nat → Int32) (c_V10 : Nat → Nat → Int32) (hr : f_X4_readKeep G P U V X O kd ln cnt this p0 = some (c_G80, c_G81, c_G84, c_G85, c_G86, c_G87, c_G88, c_G107, c_G203, c_V0, c_V1, c_V10)) (hx : p.tables.exec = Jvm.exec) (hb : c.code = cX4_readKeep) (hml : c.maxLocals = 2) (hown : s.vm.findClass RX4 = some m.cls) (hts : ∀ w ∈ vmX4_readKeep, w.before args s = true) (hA : ∀ q : Nat, s.heap.size ≤ q → A q) (hK : va_K (dC, dI) vwCl (cT kk) s) (hW : LW ws ad kk kd ln G P U V X O) (hT : TYP kd P O (V 0) cnt) (hP : va_P (dC, dI) vwCl ws H) (hD : va_D A ws) (hS : va_S A s.heap H locs) (hl : lv_has ls 2 [(0, .ref (ad this)), (1, .ref (ad p0))])
    (K : ∀ (pc : Nat) (ls : Array Slot) (c_G80z : Nat → Int32) (c_G81z : Nat → Int32) (c_G84z : Nat → Int32) (c_G85z : Nat → Int32) (c_G86z : Nat → Int32) (c_G87z : Nat → Int32) (c_G88z : Nat → Int32) (c_G107z : Nat → Int32) (c_G203z : Nat → Int32) (c_V0z : Nat → Nat → Int32) (c_V1z : Nat → Nat → Int32) (c_V10z : Nat → Nat → Int32) (ws : va_W) (H : Heap) (locs : List Loc), some (c_G80z, c_G81z, c_G84z, c_G85z, c_G86z, c_G87z, c_G88z, c_G107z, c_G203z, c_V0z, c_V1z, c_V10z) = some (c_G80, c_G81, c_G84, c_G85, c_G86, c_G87, c_G88, c_G107, c_G203, c_V0, c_V1, c_V10) → decode cX4_readKeep pc = .ok (.return_, 1) → LW ws ad kk kd ln (va_up (va_up (va_up (va_up (va_up (va_up (va_up (va_up (va_up G 80 c_G80z) 81 c_G81z) 84 c_G84z) 85 c_G85z) 86 c_G86z) 87 c_G87z) 88 c_G88z) 107 c_G107z) 203 c_G203z) P U (va_up (va_up (va_up V 0 c_V0z) 1 c_V1z) 10 c_V10z) X O → TYP kd P O c_V0z cnt → va_P (dC, dI) vwCl ws H → va_D A ws → va_S A s.heap H locs → W p l e ({ frames := 7, cells := 0, slots := 0, locals := 190 } : Room) s m args below meth c H locs 0 0 Q (F0 m pc ls [])) : W p l e ({ frames := 7, cells := 0, slots := 0, locals := 190 } : Room) s m args below meth c H locs 0 0 Q (F0 m 0 ls []) := by
  unfold f_X4_readKeep at hr
  refine lv_aload_n hx hb dX4_readKeep_0 rfl (lv_at hl 0 rfl) ?_
  refine lv_aload_n hx hb dX4_readKeep_1 rfl (lv_at hl 1 rfl) ?_
  obtain ⟨i1, hi1⟩ := hW.o5 hk_p0
  replace hr := nnS hr
  obtain ⟨a2, hn2, hr⟩ := hr
  have hk_a2 : kd a2 = 11 := hT.1 104 _ _ hn2
  refine va_get (D := (dC, dI)) (ci := 5) (v := .ref (ad a2)) (C := RX5) (T := TX5) (N := 11) hx hb hts inX5 hown hK hP i1 hi1 rfl 4 (by decide) (hts (.fieldLink RX4 78 "SpellTurner$Reform" "entries" "LSpellTurner$WordRow;") ic_395) (fun _ h9 => h9) (congrArg (fun o => some (va_re ad o)) hn2) dX4_readKeep_2 ?_
  replace hr := b1S hr
  obtain ⟨r5z, hc5, hr⟩ := hr
  have hFc := fr_all hD hS hA
  obtain ⟨i2, hi2⟩ := hW.o10 hk_a2
  refine va_calli (va_runV (As := []) (rest := [.ref (ad this)]) ⟨hx, hb, hml, hown, hts⟩ (m_X10_isFull l dC dI kk ad H.size ws G P U V X O kd ln cnt a2 hk_a2 hW hT r5z hc5) (cwV 0 hts gc_RX4_X10_isFull_84 rfl rfl rfl (by decide +kernel) ⟨Nat.le_of_ble_eq_true rfl, Nat.le_of_ble_eq_true rfl⟩) ⟨fun a U g mk q => by obtain ⟨q0, q1, qP, qK, qD⟩ := q; exact ⟨q0, q1, qP, va_K.moved (u := U) (U := U.calling g mk a) (Vm.Alike.refl U.vm) qK, qD⟩, va_recv hK hP (ci := 10) (q0 := i2) rfl hi2, fun U hU hW => ⟨rfl, by rw [hU], by rw [hU]; exact hP, va_K.moved hW.alike hK, hD.weaken (fun _ _ _ _ => trivial)⟩⟩ rfl rfl hl.1 rfl (lv_room (Nat.le_of_ble_eq_true rfl)) dX4_readKeep_5 ⟨Nat.le_of_ble_eq_true rfl, Nat.le_of_ble_eq_true rfl⟩) hS (fun q _ h => hFc q h) hFc (fun r5 w3 t H1 locs ht hvm hw hB hz1 hk1 hS => ?_)
  obtain ⟨hw0, hW, hT⟩ := hw
  replace hw0 : r5 = r5z := hw0
  subst hw0
  obtain ⟨hP1, hK1, hD1⟩ := hB
  rw [ht] at hP1
  obtain ⟨hP, hD⟩ := jn_all (w1 := w3) hFc hP1 hD1
  replace hP : va_P (dC, dI) vwCl w3 H1 := hP
  replace hD : va_D A w3 := hD
  clear hFc hP1 hK1 hD1 hk1 hz1 ht hvm
  generalize H1 = H at hP hS ⊢
  replace hr := jnS hr
  obtain ⟨j16, hj16, hr⟩ := hr
  have Jj16 : ∀ (t16_0 : Int32) (ws : va_W) (H : Heap) (locs : List Loc) (ls : Array Slot), j16 t16_0 = some (c_G80, c_G81, c_G84, c_G85, c_G86, c_G87, c_G88, c_G107, c_G203, c_V0, c_V1, c_V10) → LW ws ad kk kd ln G P U V X O → TYP kd P O (V 0) cnt → va_P (dC, dI) vwCl ws H → va_D A ws → va_S A s.heap H locs → lv_has ls 2 [(0, .ref (ad this)), (1, .ref (ad p0))] → W p l e ({ frames := 7, cells := 0, slots := 0, locals := 190 } : Room) s m args below meth c H locs 0 0 Q (F0 m 16 ls [.int t16_0, .ref (ad this)]) := by
    intro t16_0 ws H locs ls hr hW hT hP hD hS hl
    rw [hj16] at hr
    replace hr := b3S hr
    obtain ⟨r16z, c16_G80, c16_G81, hc16, hr⟩ := hr
    have hFc := fr_all hD hS hA
    obtain ⟨i4, hi4⟩ := hW.o4 hk_this
    refine va_calli (va_runV (As := [.int t16_0]) (rest := []) ⟨hx, hb, hml, hown, hts⟩ (m_X4_hasRoom l dC dI kk ad H.size ws G P U V X O kd ln cnt this t16_0 hk_this hW hT r16z c16_G80 c16_G81 hc16) (cwV 1 hts gc_RX4_X4_hasRoom_90 rfl rfl rfl (by decide +kernel) ⟨Nat.le_of_ble_eq_true rfl, Nat.le_of_ble_eq_true rfl⟩) ⟨fun a U g mk q => by obtain ⟨q0, q1, qP, qK, qD⟩ := q; exact ⟨q0, q1, qP, va_K.moved (u := U) (U := U.calling g mk a) (Vm.Alike.refl U.vm) qK, qD⟩, va_recv hK hP (ci := 4) (q0 := i4) rfl hi4, fun U hU hW => ⟨rfl, by rw [hU], by rw [hU]; exact hP, va_K.moved hW.alike hK, hD.weaken (fun _ _ _ _ => trivial)⟩⟩ rfl rfl hl.1 rfl (lv_room (Nat.le_of_ble_eq_true rfl)) dX4_readKeep_16 ⟨Nat.le_of_ble_eq_true rfl, Nat.le_of_ble_eq_true rfl⟩) hS (fun q _ h => hFc q h) hFc (fun r16 w5 t H1 locs ht hvm hw hB hz1 hk1 hS => ?_)
    obtain ⟨hw0, hW, hT⟩ := hw
    replace hw0 : r16 = r16z := hw0
    subst hw0
    obtain ⟨hP1, hK1, hD1⟩ := hB
    rw [ht] at hP1
    obtain ⟨hP, hD⟩ := jn_all (w1 := w5) hFc hP1 hD1
    replace hP : va_P (dC, dI) vwCl w5 H1 := hP
    replace hD : va_D A w5 := hD
    clear hFc hP1 hK1 hD1 hk1 hz1 ht hvm
    generalize H1 = H at hP hS ⊢
    replace hr := jnS hr
    obtain ⟨j54, hj54, hr⟩ := hr
    have Jj54 : ∀ (c54_G80 : Nat → Int32) (c54_G81 : Nat → Int32) (c54_G84 : Nat → Int32) (c54_G85 : Nat → Int32) (c54_G86 : Nat → Int32) (c54_G87 : Nat → Int32) (c54_G88 : Nat → Int32) (c54_G107 : Nat → Int32) (c54_G203 : Nat → Int32) (c54_V0 : Nat → Nat → Int32) (c54_V1 : Nat → Nat → Int32) (c54_V10 : Nat → Nat → Int32) (ws : va_W) (H : Heap) (locs : List Loc) (ls : Array Slot), j54 c54_G80 c54_G81 c54_G84 c54_G85 c54_G86 c54_G87 c54_G88 c54_G107 c54_G203 c54_V0 c54_V1 c54_V10 = some (c_G80, c_G81, c_G84, c_G85, c_G86, c_G87, c_G88, c_G107, c_G203, c_V0, c_V1, c_V10) → LW ws ad kk kd ln (va_up (va_up (va_up (va_up (va_up (va_up (va_up (va_up (va_up G 80 c54_G80) 81 c54_G81) 84 c54_G84) 85 c54_G85) 86 c54_G86) 87 c54_G87) 88 c54_G88) 107 c54_G107) 203 c54_G203) P U (va_up (va_up (va_up V 0 c54_V0) 1 c54_V1) 10 c54_V10) X O → TYP kd P O c54_V0 cnt → va_P (dC, dI) vwCl ws H → va_D A ws → va_S A s.heap H locs → lv_has ls 2 [] → W p l e ({ frames := 7, cells := 0, slots := 0, locals := 190 } : Room) s m args below meth c H locs 0 0 Q (F0 m 54 ls []) := by
      intro c54_G80 c54_G81 c54_G84 c54_G85 c54_G86 c54_G87 c54_G88 c54_G107 c54_G203 c54_V0 c54_V1 c54_V10 ws H locs ls hr hW hT hP hD hS hl
      rw [hj54] at hr
      exact K 54 ls _ _ _ _ _ _ _ _ _ _ _ _ ws H _ hr dX4_readKeep_54 hW hT hP hD hS
    refine lv_if_eq (tgt := 54) hx hb dX4_readKeep_19 (by decide) (fun c19 => ?_) (fun c19 => ?_)
    · replace hr := iteT c19 hr
      have eG : (va_up (va_up G 80 c16_G80) 81 c16_G81) = (va_up (va_up (va_up (va_up (va_up (va_up (va_up (va_up (va_up G 80 c16_G80) 81 c16_G81) 84 (G 84)) 85 (G 85)) 86 (G 86)) 87 (G 87)) 88 (G 88)) 107 (G 107)) 203 (G 203)) := by
        funext k
        by_cases h80 : k = 80
        · subst h80; rfl
        by_cases h81 : k = 81
        · subst h81; rfl
        by_cases h84 : k = 84
        · subst h84; rfl
        by_cases h85 : k = 85
        · subst h85; rfl
        by_cases h86 : k = 86
        · subst h86; rfl
        by_cases h87 : k = 87
        · subst h87; rfl
        by_cases h88 : k = 88
        · subst h88; rfl
        by_cases h107 : k = 107
        · subst h107; rfl
        by_cases h203 : k = 203
        · subst h203; rfl
        · simp only [va_up, h80, h81, h84, h85, h86, h87, h88, h107, h203, if_false]
      rw [eG] at hW
      clear eG
      have eV : V = (va_up (va_up (va_up V 0 (V 0)) 1 (V 1)) 10 (V 10)) := by
        funext k
        by_cases h0 : k = 0
        · subst h0; rfl
        by_cases h1 : k = 1
        · subst h1; rfl
        by_cases h10 : k = 10
        · subst h10; rfl
        · simp only [va_up, h0, h1, h10, if_false]
      rw [eV] at hW
      clear eV
      exact Jj54 c16_G80 c16_G81 (G 84) (G 85) (G 86) (G 87) (G 88) (G 107) (G 203) (V 0) (V 1) (V 10) w5 H _ ls hr hW hT hP hD hS (lv_sub hl [] rfl)
    · replace hr := iteF c19 hr
      refine lv_aload_n hx hb dX4_readKeep_22 rfl (lv_at hl 0 rfl) ?_
      refine lv_aload_n hx hb dX4_readKeep_23 rfl (lv_at hl 1 rfl) ?_
      obtain ⟨i6, hi6⟩ := hW.o5 hk_p0
      replace hr := nnS hr
      obtain ⟨a24, hn24, hr⟩ := hr
      have hk_a24 : kd a24 = 11 := hT.1 104 _ _ hn24
      refine va_get (D := (dC, dI)) (ci := 5) (v := .ref (ad a24)) (C := RX5) (T := TX5) (N := 11) hx hb hts inX5 hown hK hP i6 hi6 rfl 4 (by decide) (hts (.fieldLink RX4 78 "SpellTurner$Reform" "entries" "LSpellTurner$WordRow;") ic_395) (fun _ h9 => h9) (congrArg (fun o => some (va_re ad o)) hn24) dX4_readKeep_24 ?_
      replace hr := b8S hr
      obtain ⟨r27z, c27_G80, c27_G81, c27_G84, c27_G85, c27_G86, c27_G87, c27_G88, hc27, hr⟩ := hr
      have hFc := fr_all hD hS hA
      obtain ⟨i7, hi7⟩ := hW.o4 hk_this
      refine va_calli (va_runV (As := [.ref (ad a24)]) (rest := []) ⟨hx, hb, hml, hown, hts⟩ (m_X4_takeNew l dC dI kk ad H.size w5 (va_up (va_up G 80 c16_G80) 81 c16_G81) P U V X O kd ln cnt this a24 hk_this hk_a24 hW hT r27z c27_G80 c27_G81 c27_G84 c27_G85 c27_G86 c27_G87 c27_G88 hc27) (cwV 1 hts gc_RX4_X4_takeNew_94 rfl rfl rfl (by decide +kernel) ⟨Nat.le_of_ble_eq_true rfl, Nat.le_of_ble_eq_true rfl⟩) ⟨fun a U g mk q => by obtain ⟨q0, q1, qP, qK, qD⟩ := q; exact ⟨q0, q1, qP, va_K.moved (u := U) (U := U.calling g mk a) (Vm.Alike.refl U.vm) qK, qD⟩, va_recv hK hP (ci := 4) (q0 := i7) rfl hi7, fun U hU hW => ⟨rfl, by rw [hU], by rw [hU]; exact hP, va_K.moved hW.alike hK, hD.weaken (fun _ _ _ _ => trivial)⟩⟩ rfl rfl hl.1 rfl (lv_room (Nat.le_of_ble_eq_true rfl)) dX4_readKeep_27 ⟨Nat.le_of_ble_eq_true rfl, Nat.le_of_ble_eq_true rfl⟩) hS (fun q _ h => hFc q h) hFc (fun r27 w8 t H1 locs ht hvm hw hB hz1 hk1 hS => ?_)
      obtain ⟨hw0, hW, hT⟩ := hw
      replace hw0 : r27 = r27z := hw0
      subst hw0
      obtain ⟨hP1, hK1, hD1⟩ := hB
      rw [ht] at hP1
      obtain ⟨hP, hD⟩ := jn_all (w1 := w8) hFc hP1 hD1
      replace hP : va_P (dC, dI) vwCl w8 H1 := hP
      replace hD : va_D A w8 := hD
      clear hFc hP1 hK1 hD1 hk1 hz1 ht hvm
      generalize H1 = H at hP hS ⊢
      refine lv_if_eq (tgt := 54) hx hb dX4_readKeep_30 (by decide) (fun c30 => ?_) (fun c30 => ?_)
      · replace hr := iteT c30 hr
        have eG : (va_up (va_up (va_up (va_up (va_up (va_up (va_up (va_up (va_up G 80 c16_G80) 81 c16_G81) 80 c27_G80) 81 c27_G81) 84 c27_G84) 85 c27_G85) 86 c27_G86) 87 c27_G87) 88 c27_G88) = (va_up (va_up (va_up (va_up (va_up (va_up (va_up (va_up (va_up G 80 c27_G80) 81 c27_G81) 84 c27_G84) 85 c27_G85) 86 c27_G86) 87 c27_G87) 88 c27_G88) 107 (G 107)) 203 (G 203)) := by
          funext k
          by_cases h80 : k = 80
          · subst h80; rfl
          by_cases h81 : k = 81
          · subst h81; rfl
          by_cases h84 : k = 84
          · subst h84; rfl
          by_cases h85 : k = 85
          · subst h85; rfl
          by_cases h86 : k = 86
          · subst h86; rfl
          by_cases h87 : k = 87
          · subst h87; rfl
          by_cases h88 : k = 88
          · subst h88; rfl
          by_cases h107 : k = 107
          · subst h107; rfl
          by_cases h203 : k = 203
          · subst h203; rfl
          · simp only [va_up, h80, h81, h84, h85, h86, h87, h88, h107, h203, if_false]
        rw [eG] at hW
        clear eG
        have eV : V = (va_up (va_up (va_up V 0 (V 0)) 1 (V 1)) 10 (V 10)) := by
          funext k
          by_cases h0 : k = 0
          · subst h0; rfl
          by_cases h1 : k = 1
          · subst h1; rfl
          by_cases h10 : k = 10
          · subst h10; rfl
          · simp only [va_up, h0, h1, h10, if_false]
        rw [eV] at hW
        clear eV
        exact Jj54 c27_G80 c27_G81 c27_G84 c27_G85 c27_G86 c27_G87 c27_G88 (G 107) (G 203) (V 0) (V 1) (V 10) w8 H _ ls hr hW hT hP hD hS (lv_sub hl [] rfl)
      · replace hr := iteF c30 hr
        refine lv_aload_n hx hb dX4_readKeep_33 rfl (lv_at hl 1 rfl) ?_
        refine lv_aload_n hx hb dX4_readKeep_34 rfl (lv_at hl 0 rfl) ?_
        obtain ⟨i9, hi9⟩ := hW.o4 hk_this
        replace hr := nnS hr
        obtain ⟨a35, hn35, hr⟩ := hr
        have hk_a35 : kd a35 = 100 := hT.1 82 _ _ hn35
        refine va_get (D := (dC, dI)) (ci := 4) (v := .ref (ad a35)) (C := RX4) (T := TX4) (N := 9) hx hb hts inX4 hown hK hP i9 hi9 rfl 2 (by decide) (hts (.fieldLink RX4 18 "SpellTurner$Reader" "text" "[B") ic_352) (fun _ h9 => h9) (congrArg (fun o => some (va_re ad o)) hn35) dX4_readKeep_35 ?_
        refine lv_aload_n hx hb dX4_readKeep_38 rfl (lv_at hl 0 rfl) ?_
        obtain ⟨i10, hi10⟩ := hW.o4 hk_this
        refine va_get (D := (dC, dI)) (ci := 4) (v := .int (c27_G87 this)) (C := RX4) (T := TX4) (N := 9) hx hb hts inX4 hown hK hP i10 hi10 rfl 7 (by decide) (hts (.fieldLink RX4 34 "SpellTurner$Reader" "start" "I") ic_349) (fun _ h9 => h9) rfl dX4_readKeep_39 ?_
        refine lv_aload_n hx hb dX4_readKeep_42 rfl (lv_at hl 0 rfl) ?_
        obtain ⟨i11, hi11⟩ := hW.o4 hk_this
        refine va_get (D := (dC, dI)) (ci := 4) (v := .int (c27_G88 this)) (C := RX4) (T := TX4) (N := 9) hx hb hts inX4 hown hK hP i11 hi11 rfl 8 (by decide) (hts (.fieldLink RX4 37 "SpellTurner$Reader" "length" "I") ic_351) (fun _ h9 => h9) rfl dX4_readKeep_43 ?_
        replace hr := b5S hr
        obtain ⟨c46_G107, c46_G203, c46_V0, c46_V1, c46_V10, hc46, hr⟩ := hr
        have hFc := fr_all hD hS hA
        obtain ⟨i12, hi12⟩ := hW.o5 hk_p0
        refine va_callv (va_runV (As := [.ref (ad a35), .int (c27_G87 this), .int (c27_G88 this)]) (rest := []) ⟨hx, hb, hml, hown, hts⟩ (m_X5_addKept l dC dI kk ad H.size w8 (va_up (va_up (va_up (va_up (va_up (va_up (va_up (va_up (va_up G 80 c16_G80) 81 c16_G81) 80 c27_G80) 81 c27_G81) 84 c27_G84) 85 c27_G85) 86 c27_G86) 87 c27_G87) 88 c27_G88) P U V X O kd ln cnt p0 a35 (c27_G87 this) (c27_G88 this) hk_p0 hk_a35 hW hT c46_G107 c46_G203 c46_V0 c46_V1 c46_V10 hc46) (cwV 3 hts gc_RX4_X5_addKept_98 rfl rfl rfl (by decide +kernel) ⟨Nat.le_of_ble_eq_true rfl, Nat.le_of_ble_eq_true rfl⟩) ⟨fun a U g mk q => by obtain ⟨q0, q1, qP, qK, qD⟩ := q; exact ⟨q0, q1, qP, va_K.moved (u := U) (U := U.calling g mk a) (Vm.Alike.refl U.vm) qK, qD⟩, va_recv hK hP (ci := 5) (q0 := i12) rfl hi12, fun U hU hW => ⟨rfl, by rw [hU], by rw [hU]; exact hP, va_K.moved hW.alike hK, hD.weaken (fun _ _ _ _ => trivial)⟩⟩ rfl rfl hl.1 rfl (lv_room (Nat.le_of_ble_eq_true rfl)) dX4_readKeep_46 ⟨Nat.le_of_ble_eq_true rfl, Nat.le_of_ble_eq_true rfl⟩) hS (fun q _ h => hFc q h) hFc (fun w13 t H1 locs ht hvm hw hB hz1 hk1 hS => ?_)
        obtain ⟨hW, hT⟩ := hw
        obtain ⟨hP1, hK1, hD1⟩ := hB
        rw [ht] at hP1
        obtain ⟨hP, hD⟩ := jn_all (w1 := w13) hFc hP1 hD1
        replace hP : va_P (dC, dI) vwCl w13 H1 := hP
        replace hD : va_D A w13 := hD
        clear hFc hP1 hK1 hD1 hk1 hz1 ht hvm
        generalize H1 = H at hP hS ⊢
        refine lv_aload_n hx hb dX4_readKeep_49 rfl (lv_at hl 0 rfl) ?_
        replace hr := b8S hr
        obtain ⟨r50z, c50_G80, c50_G81, c50_G84, c50_G85, c50_G86, c50_G87, c50_G88, hc50, hr⟩ := hr
        have hFc := fr_all hD hS hA
        obtain ⟨i14, hi14⟩ := hW.o4 hk_this
        refine va_calli (va_runV (As := []) (rest := []) ⟨hx, hb, hml, hown, hts⟩ (m_X4_takeClose l dC dI kk ad H.size w13 (va_up (va_up (va_up (va_up (va_up (va_up (va_up (va_up (va_up (va_up (va_up G 80 c16_G80) 81 c16_G81) 80 c27_G80) 81 c27_G81) 84 c27_G84) 85 c27_G85) 86 c27_G86) 87 c27_G87) 88 c27_G88) 107 c46_G107) 203 c46_G203) P U (va_up (va_up (va_up V 0 c46_V0) 1 c46_V1) 10 c46_V10) X O kd ln cnt this hk_this hW hT r50z c50_G80 c50_G81 c50_G84 c50_G85 c50_G86 c50_G87 c50_G88 hc50) (cwV 0 hts gc_RX4_X4_takeClose_102 rfl rfl rfl (by decide +kernel) ⟨Nat.le_of_ble_eq_true rfl, Nat.le_of_ble_eq_true rfl⟩) ⟨fun a U g mk q => by obtain ⟨q0, q1, qP, qK, qD⟩ := q; exact ⟨q0, q1, qP, va_K.moved (u := U) (U := U.calling g mk a) (Vm.Alike.refl U.vm) qK, qD⟩, va_recv hK hP (ci := 4) (q0 := i14) rfl hi14, fun U hU hW => ⟨rfl, by rw [hU], by rw [hU]; exact hP, va_K.moved hW.alike hK, hD.weaken (fun _ _ _ _ => trivial)⟩⟩ rfl rfl hl.1 rfl (lv_room (Nat.le_of_ble_eq_true rfl)) dX4_readKeep_50 ⟨Nat.le_of_ble_eq_true rfl, Nat.le_of_ble_eq_true rfl⟩) hS (fun q _ h => hFc q h) hFc (fun r50 w15 t H1 locs ht hvm hw hB hz1 hk1 hS => ?_)
        obtain ⟨hw0, hW, hT⟩ := hw
        replace hw0 : r50 = r50z := hw0
        subst hw0
        obtain ⟨hP1, hK1, hD1⟩ := hB
        rw [ht] at hP1
        obtain ⟨hP, hD⟩ := jn_all (w1 := w15) hFc hP1 hD1
        replace hP : va_P (dC, dI) vwCl w15 H1 := hP
        replace hD : va_D A w15 := hD
        clear hFc hP1 hK1 hD1 hk1 hz1 ht hvm
        generalize H1 = H at hP hS ⊢
        refine lv_pop hx hb dX4_readKeep_53 rfl ?_
        have eG : (va_up (va_up (va_up (va_up (va_up (va_up (va_up (va_up (va_up (va_up (va_up (va_up (va_up (va_up (va_up (va_up (va_up (va_up G 80 c16_G80) 81 c16_G81) 80 c27_G80) 81 c27_G81) 84 c27_G84) 85 c27_G85) 86 c27_G86) 87 c27_G87) 88 c27_G88) 107 c46_G107) 203 c46_G203) 80 c50_G80) 81 c50_G81) 84 c50_G84) 85 c50_G85) 86 c50_G86) 87 c50_G87) 88 c50_G88) = (va_up (va_up (va_up (va_up (va_up (va_up (va_up (va_up (va_up G 80 c50_G80) 81 c50_G81) 84 c50_G84) 85 c50_G85) 86 c50_G86) 87 c50_G87) 88 c50_G88) 107 c46_G107) 203 c46_G203) := by
          funext k
          by_cases h80 : k = 80
          · subst h80; rfl
          by_cases h81 : k = 81
          · subst h81; rfl
          by_cases h84 : k = 84
          · subst h84; rfl
          by_cases h85 : k = 85
          · subst h85; rfl
          by_cases h86 : k = 86
          · subst h86; rfl
          by_cases h87 : k = 87
          · subst h87; rfl
          by_cases h88 : k = 88
          · subst h88; rfl
          by_cases h107 : k = 107
          · subst h107; rfl
          by_cases h203 : k = 203
          · subst h203; rfl
          · simp only [va_up, h80, h81, h84, h85, h86, h87, h88, h107, h203, if_false]
        rw [eG] at hW
        clear eG
        exact Jj54 c50_G80 c50_G81 c50_G84 c50_G85 c50_G86 c50_G87 c50_G88 c46_G107 c46_G203 c46_V0 c46_V1 c46_V10 w15 H _ ls hr hW hT hP hD hS (lv_sub hl [] rfl)
  refine lv_if_ne (tgt := 15) hx hb dX4_readKeep_8 (by decide) (fun c8 => ?_) (fun c8 => ?_)
  · replace hr := iteF c8 hr
    refine lv_iconst (v := 0) hx hb dX4_readKeep_15 (by decide +kernel) ?_
    exact Jj16 0 w3 H _ ls hr hW hT hP hD hS (lv_sub hl [0, 1] rfl)
  · replace hr := iteT c8 hr
    refine lv_iconst (v := 1) hx hb dX4_readKeep_11 (by decide +kernel) ?_
    refine lv_goto (tgt := 16) hx hb dX4_readKeep_12 (by decide) ?_
    exact Jj16 1 w3 H _ ls hr hW hT hP hD hS (lv_sub hl [0, 1] rfl)
set_option maxHeartbeats 4000000 in
set_option maxRecDepth 100000 in
theorem m_X4_readKeep (l : Launch) (dC : Nat → ClassId) (dI : Nat → Nat → Nat) (kk : Nat → ClassId) (ad : Nat → Nat) (sz : Nat) (ws : va_W) (G : Nat → Nat → Int32) (P : Nat → Nat → Option Nat) (U : Nat → Nat → Int64) (V : Nat → Nat → Nat → Int32) (X : Nat → Nat → Nat → Int64) (O : Nat → Nat → Nat → Option Nat) (kd : Nat → Nat) (ln : Nat → Nat) (cnt : Nat) (this : Nat) (p0 : Nat) (hk_this : kd this = 5) (hk_p0 : kd p0 = 6) (hW : LW ws ad kk kd ln G P U V X O) (hT : TYP kd P O (V 0) cnt) (c_G80 : Nat → Int32) (c_G81 : Nat → Int32) (c_G84 : Nat → Int32) (c_G85 : Nat → Int32) (c_G86 : Nat → Int32) (c_G87 : Nat → Int32) (c_G88 : Nat → Int32) (c_G107 : Nat → Int32) (c_G203 : Nat → Int32) (c_V0 : Nat → Nat → Int32) (c_V1 : Nat → Nat → Int32) (c_V10 : Nat → Nat → Int32) (hr : f_X4_readKeep G P U V X O kd ln cnt this p0 = some (c_G80, c_G81, c_G84, c_G85, c_G86, c_G87, c_G88, c_G107, c_G203, c_V0, c_V1, c_V10)) : Met l yX4_readKeep vmX4_readKeep ({ frames := 7, cells := 0, slots := 0, locals := 190 } : Room) (va_Pc [.ref (ad this), .ref (ad p0)] (fun U => U.heap.size = sz ∧ va_P (dC, dI) vwCl ws U.heap ∧ va_K (dC, dI) vwCl (cT kk) U ∧ va_D (fun _ => True) ws)) (va_Qv (fun w => LW w ad kk kd ln (va_up (va_up (va_up (va_up (va_up (va_up (va_up (va_up (va_up G 80 c_G80) 81 c_G81) 84 c_G84) 85 c_G85) 86 c_G86) 87 c_G87) 88 c_G88) 107 c_G107) 203 c_G203) P U (va_up (va_up (va_up V 0 c_V0) 1 c_V1) 10 c_V10) X O ∧ TYP kd P O c_V0 cnt) (fun w t => va_P (dC, dI) vwCl w t.heap ∧ va_K (dC, dI) vwCl (cT kk) t ∧ va_D (va_A ws sz) w) (va_A ws sz)) 0 0 (va_A ws sz) := by
  refine Met.ofW (cc := cX4_readKeep) (maxL := 2) (ret := none) (by decide) rfl ?_
  intro p e s m args below meth c s₁ B hml hv
  obtain ⟨rfl, hsz, hP, hK, hD0⟩ := hv
  have hx := B.exec
  have hb := B.bytes
  have hrt := B.returns
  have hts := atoms_spec (ws := vmX4_readKeep) B.pre
  have hown : s.vm.findClass RX4 = some m.cls := findClass_of_methodNamed B.named
  subst hsz
  have hD := hD0.self (sz := s.heap.size)
  generalize hAe : va_A ws s.heap.size = A at hD ⊢
  have hA : ∀ q : Nat, s.heap.size ≤ q → A q := fun q h => by rw [← hAe]; exact Or.inr h
  have hS : va_S A s.heap s.heap [] := va_S.rf
  have hl := lv_entry ([.ref (ad this), .ref (ad p0)]) (n := 2) (Nat.le_of_ble_eq_true rfl)
  rw [lg_entry_eq]
  generalize (lg_sl ([.ref (ad this), .ref (ad p0)]) ++ List.replicate (2 - (lg_sl ([.ref (ad this), .ref (ad p0)])).length) Slot.unset).toArray = ls at hl ⊢
  exact bm_X4_readKeep this p0 hk_this hk_p0 c_G80 c_G81 c_G84 c_G85 c_G86 c_G87 c_G88 c_G107 c_G203 c_V0 c_V1 c_V10 hr hx hb hml hown hts hA hK hW hT hP hD hS hl (fun pc ls c_G80z c_G81z c_G84z c_G85z c_G86z c_G87z c_G88z c_G107z c_G203z c_V0z c_V1z c_V10z ws H locs he hd hW hT hP hD hS => by cases he; exact W.vret hx hb hrt (fun t ht hW9 => ⟨⟨ws, rfl, ⟨hW, hT⟩, by rw [ht]; exact hP, va_K.moved hW9.alike hK, hD⟩, hS.F ht⟩) hS.2.2 hd)
set_option maxHeartbeats 4000000 in
set_option maxRecDepth 100000 in
theorem bm_X4_readPart {p : Program} {l : Launch} {e : Env} {s : State} {m : MethodId} {args : Array Value} {below : List Frame} {meth : Method} {c : Code} {Q : State → Prop} {A : Nat → Prop} {dC : Nat → ClassId} {dI : Nat → Nat → Nat} {kk : Nat → ClassId} {ad : Nat → Nat} {ws : va_W} {G : Nat → Nat → Int32} {P : Nat → Nat → Option Nat} {U : Nat → Nat → Int64} {V : Nat → Nat → Nat → Int32} {X : Nat → Nat → Nat → Int64} {O : Nat → Nat → Nat → Option Nat} {kd : Nat → Nat} {ln : Nat → Nat} {cnt : Nat} {H : Heap} {locs : List Loc} {ls : Array Slot} (this : Nat) (p0 : Nat) (hk_this : kd this = 5) (hk_p0 : kd p0 = 6) (c_G80 : Nat → Int32) (c_G81 : Nat → Int32) (c_G84 : Nat → Int32) (c_G85 : Nat → Int32) (c_G86 : Nat → Int32) (c_G87 : Nat → Int32) (c_G88 : Nat → Int32) (c_G203 : Nat → Int32) (c_V0 : Nat → Nat → Int32) (c_V1 : Nat → Nat → Int32) (hr : f_X4_readPart G P U V X O kd ln cnt this p0 = some (c_G80, c_G81, c_G84, c_G85, c_G86, c_G87, c_G88, c_G203, c_V0, c_V1)) (hx : p.tables.exec = Jvm.exec) (hb : c.code = cX4_readPart) (hml : c.maxLocals = 2) (hown : s.vm.findClass RX4 = some m.cls) (hts : ∀ w ∈ vmX4_readPart, w.before args s = true) (hA : ∀ q : Nat, s.heap.size ≤ q → A q) (hK : va_K (dC, dI) vwCl (cT kk) s) (hW : LW ws ad kk kd ln G P U V X O) (hT : TYP kd P O (V 0) cnt) (hP : va_P (dC, dI) vwCl ws H) (hD : va_D A ws) (hS : va_S A s.heap H locs) (hl : lv_has ls 2 [(0, .ref (ad this)), (1, .ref (ad p0))])
    (K : ∀ (pc : Nat) (ls : Array Slot) (c_G80z : Nat → Int32) (c_G81z : Nat → Int32) (c_G84z : Nat → Int32) (c_G85z : Nat → Int32) (c_G86z : Nat → Int32) (c_G87z : Nat → Int32) (c_G88z : Nat → Int32) (c_G203z : Nat → Int32) (c_V0z : Nat → Nat → Int32) (c_V1z : Nat → Nat → Int32) (ws : va_W) (H : Heap) (locs : List Loc), some (c_G80z, c_G81z, c_G84z, c_G85z, c_G86z, c_G87z, c_G88z, c_G203z, c_V0z, c_V1z) = some (c_G80, c_G81, c_G84, c_G85, c_G86, c_G87, c_G88, c_G203, c_V0, c_V1) → decode cX4_readPart pc = .ok (.return_, 1) → LW ws ad kk kd ln (va_up (va_up (va_up (va_up (va_up (va_up (va_up (va_up G 80 c_G80z) 81 c_G81z) 84 c_G84z) 85 c_G85z) 86 c_G86z) 87 c_G87z) 88 c_G88z) 203 c_G203z) P U (va_up (va_up V 0 c_V0z) 1 c_V1z) X O → TYP kd P O c_V0z cnt → va_P (dC, dI) vwCl ws H → va_D A ws → va_S A s.heap H locs → W p l e ({ frames := 7, cells := 0, slots := 0, locals := 163 } : Room) s m args below meth c H locs 0 0 Q (F0 m pc ls [])) : W p l e ({ frames := 7, cells := 0, slots := 0, locals := 163 } : Room) s m args below meth c H locs 0 0 Q (F0 m 0 ls []) := by
  unfold f_X4_readPart at hr
  refine lv_aload_n hx hb dX4_readPart_0 rfl (lv_at hl 0 rfl) ?_
  refine lv_aload_n hx hb dX4_readPart_1 rfl (lv_at hl 1 rfl) ?_
  obtain ⟨i1, hi1⟩ := hW.o5 hk_p0
  replace hr := nnS hr
  obtain ⟨a2, hn2, hr⟩ := hr
  have hk_a2 : kd a2 = 11 := hT.1 103 _ _ hn2
  refine va_get (D := (dC, dI)) (ci := 5) (v := .ref (ad a2)) (C := RX5) (T := TX5) (N := 11) hx hb hts inX5 hown hK hP i1 hi1 rfl 3 (by decide) (hts (.fieldLink RX4 120 "SpellTurner$Reform" "parts" "LSpellTurner$WordRow;") ic_410) (fun _ h9 => h9) (congrArg (fun o => some (va_re ad o)) hn2) dX4_readPart_2 ?_
  replace hr := b1S hr
  obtain ⟨r5z, hc5, hr⟩ := hr
  have hFc := fr_all hD hS hA
  obtain ⟨i2, hi2⟩ := hW.o10 hk_a2
  refine va_calli (va_runV (As := []) (rest := [.ref (ad this)]) ⟨hx, hb, hml, hown, hts⟩ (m_X10_isFull l dC dI kk ad H.size ws G P U V X O kd ln cnt a2 hk_a2 hW hT r5z hc5) (cwV 0 hts gc_RX4_X10_isFull_84 rfl rfl rfl (by decide +kernel) ⟨Nat.le_of_ble_eq_true rfl, Nat.le_of_ble_eq_true rfl⟩) ⟨fun a U g mk q => by obtain ⟨q0, q1, qP, qK, qD⟩ := q; exact ⟨q0, q1, qP, va_K.moved (u := U) (U := U.calling g mk a) (Vm.Alike.refl U.vm) qK, qD⟩, va_recv hK hP (ci := 10) (q0 := i2) rfl hi2, fun U hU hW => ⟨rfl, by rw [hU], by rw [hU]; exact hP, va_K.moved hW.alike hK, hD.weaken (fun _ _ _ _ => trivial)⟩⟩ rfl rfl hl.1 rfl (lv_room (Nat.le_of_ble_eq_true rfl)) dX4_readPart_5 ⟨Nat.le_of_ble_eq_true rfl, Nat.le_of_ble_eq_true rfl⟩) hS (fun q _ h => hFc q h) hFc (fun r5 w3 t H1 locs ht hvm hw hB hz1 hk1 hS => ?_)
  obtain ⟨hw0, hW, hT⟩ := hw
  replace hw0 : r5 = r5z := hw0
  subst hw0
  obtain ⟨hP1, hK1, hD1⟩ := hB
  rw [ht] at hP1
  obtain ⟨hP, hD⟩ := jn_all (w1 := w3) hFc hP1 hD1
  replace hP : va_P (dC, dI) vwCl w3 H1 := hP
  replace hD : va_D A w3 := hD
  clear hFc hP1 hK1 hD1 hk1 hz1 ht hvm
  generalize H1 = H at hP hS ⊢
  replace hr := jnS hr
  obtain ⟨j16, hj16, hr⟩ := hr
  have Jj16 : ∀ (t16_0 : Int32) (ws : va_W) (H : Heap) (locs : List Loc) (ls : Array Slot), j16 t16_0 = some (c_G80, c_G81, c_G84, c_G85, c_G86, c_G87, c_G88, c_G203, c_V0, c_V1) → LW ws ad kk kd ln G P U V X O → TYP kd P O (V 0) cnt → va_P (dC, dI) vwCl ws H → va_D A ws → va_S A s.heap H locs → lv_has ls 2 [(0, .ref (ad this)), (1, .ref (ad p0))] → W p l e ({ frames := 7, cells := 0, slots := 0, locals := 163 } : Room) s m args below meth c H locs 0 0 Q (F0 m 16 ls [.int t16_0, .ref (ad this)]) := by
    intro t16_0 ws H locs ls hr hW hT hP hD hS hl
    rw [hj16] at hr
    replace hr := b3S hr
    obtain ⟨r16z, c16_G80, c16_G81, hc16, hr⟩ := hr
    have hFc := fr_all hD hS hA
    obtain ⟨i4, hi4⟩ := hW.o4 hk_this
    refine va_calli (va_runV (As := [.int t16_0]) (rest := []) ⟨hx, hb, hml, hown, hts⟩ (m_X4_hasRoom l dC dI kk ad H.size ws G P U V X O kd ln cnt this t16_0 hk_this hW hT r16z c16_G80 c16_G81 hc16) (cwV 1 hts gc_RX4_X4_hasRoom_90 rfl rfl rfl (by decide +kernel) ⟨Nat.le_of_ble_eq_true rfl, Nat.le_of_ble_eq_true rfl⟩) ⟨fun a U g mk q => by obtain ⟨q0, q1, qP, qK, qD⟩ := q; exact ⟨q0, q1, qP, va_K.moved (u := U) (U := U.calling g mk a) (Vm.Alike.refl U.vm) qK, qD⟩, va_recv hK hP (ci := 4) (q0 := i4) rfl hi4, fun U hU hW => ⟨rfl, by rw [hU], by rw [hU]; exact hP, va_K.moved hW.alike hK, hD.weaken (fun _ _ _ _ => trivial)⟩⟩ rfl rfl hl.1 rfl (lv_room (Nat.le_of_ble_eq_true rfl)) dX4_readPart_16 ⟨Nat.le_of_ble_eq_true rfl, Nat.le_of_ble_eq_true rfl⟩) hS (fun q _ h => hFc q h) hFc (fun r16 w5 t H1 locs ht hvm hw hB hz1 hk1 hS => ?_)
    obtain ⟨hw0, hW, hT⟩ := hw
    replace hw0 : r16 = r16z := hw0
    subst hw0
    obtain ⟨hP1, hK1, hD1⟩ := hB
    rw [ht] at hP1
    obtain ⟨hP, hD⟩ := jn_all (w1 := w5) hFc hP1 hD1
    replace hP : va_P (dC, dI) vwCl w5 H1 := hP
    replace hD : va_D A w5 := hD
    clear hFc hP1 hK1 hD1 hk1 hz1 ht hvm
    generalize H1 = H at hP hS ⊢
    replace hr := jnS hr
    obtain ⟨j57, hj57, hr⟩ := hr
    have Jj57 : ∀ (c57_G80 : Nat → Int32) (c57_G81 : Nat → Int32) (c57_G84 : Nat → Int32) (c57_G85 : Nat → Int32) (c57_G86 : Nat → Int32) (c57_G87 : Nat → Int32) (c57_G88 : Nat → Int32) (c57_G203 : Nat → Int32) (c57_V0 : Nat → Nat → Int32) (c57_V1 : Nat → Nat → Int32) (ws : va_W) (H : Heap) (locs : List Loc) (ls : Array Slot), j57 c57_G80 c57_G81 c57_G84 c57_G85 c57_G86 c57_G87 c57_G88 c57_G203 c57_V0 c57_V1 = some (c_G80, c_G81, c_G84, c_G85, c_G86, c_G87, c_G88, c_G203, c_V0, c_V1) → LW ws ad kk kd ln (va_up (va_up (va_up (va_up (va_up (va_up (va_up (va_up G 80 c57_G80) 81 c57_G81) 84 c57_G84) 85 c57_G85) 86 c57_G86) 87 c57_G87) 88 c57_G88) 203 c57_G203) P U (va_up (va_up V 0 c57_V0) 1 c57_V1) X O → TYP kd P O c57_V0 cnt → va_P (dC, dI) vwCl ws H → va_D A ws → va_S A s.heap H locs → lv_has ls 2 [] → W p l e ({ frames := 7, cells := 0, slots := 0, locals := 163 } : Room) s m args below meth c H locs 0 0 Q (F0 m 57 ls []) := by
      intro c57_G80 c57_G81 c57_G84 c57_G85 c57_G86 c57_G87 c57_G88 c57_G203 c57_V0 c57_V1 ws H locs ls hr hW hT hP hD hS hl
      rw [hj57] at hr
      exact K 57 ls _ _ _ _ _ _ _ _ _ _ ws H _ hr dX4_readPart_57 hW hT hP hD hS
    refine lv_if_eq (tgt := 57) hx hb dX4_readPart_19 (by decide) (fun c19 => ?_) (fun c19 => ?_)
    · replace hr := iteT c19 hr
      have eG : (va_up (va_up G 80 c16_G80) 81 c16_G81) = (va_up (va_up (va_up (va_up (va_up (va_up (va_up (va_up G 80 c16_G80) 81 c16_G81) 84 (G 84)) 85 (G 85)) 86 (G 86)) 87 (G 87)) 88 (G 88)) 203 (G 203)) := by
        funext k
        by_cases h80 : k = 80
        · subst h80; rfl
        by_cases h81 : k = 81
        · subst h81; rfl
        by_cases h84 : k = 84
        · subst h84; rfl
        by_cases h85 : k = 85
        · subst h85; rfl
        by_cases h86 : k = 86
        · subst h86; rfl
        by_cases h87 : k = 87
        · subst h87; rfl
        by_cases h88 : k = 88
        · subst h88; rfl
        by_cases h203 : k = 203
        · subst h203; rfl
        · simp only [va_up, h80, h81, h84, h85, h86, h87, h88, h203, if_false]
      rw [eG] at hW
      clear eG
      have eV : V = (va_up (va_up V 0 (V 0)) 1 (V 1)) := by
        funext k
        by_cases h0 : k = 0
        · subst h0; rfl
        by_cases h1 : k = 1
        · subst h1; rfl
        · simp only [va_up, h0, h1, if_false]
      rw [eV] at hW
      clear eV
      exact Jj57 c16_G80 c16_G81 (G 84) (G 85) (G 86) (G 87) (G 88) (G 203) (V 0) (V 1) w5 H _ ls hr hW hT hP hD hS (lv_sub hl [] rfl)
    · replace hr := iteF c19 hr
      refine lv_aload_n hx hb dX4_readPart_22 rfl (lv_at hl 0 rfl) ?_
      refine lv_aload_n hx hb dX4_readPart_23 rfl (lv_at hl 1 rfl) ?_
      obtain ⟨i6, hi6⟩ := hW.o5 hk_p0
      replace hr := nnS hr
      obtain ⟨a24, hn24, hr⟩ := hr
      have hk_a24 : kd a24 = 11 := hT.1 103 _ _ hn24
      refine va_get (D := (dC, dI)) (ci := 5) (v := .ref (ad a24)) (C := RX5) (T := TX5) (N := 11) hx hb hts inX5 hown hK hP i6 hi6 rfl 3 (by decide) (hts (.fieldLink RX4 120 "SpellTurner$Reform" "parts" "LSpellTurner$WordRow;") ic_410) (fun _ h9 => h9) (congrArg (fun o => some (va_re ad o)) hn24) dX4_readPart_24 ?_
      replace hr := b8S hr
      obtain ⟨r27z, c27_G80, c27_G81, c27_G84, c27_G85, c27_G86, c27_G87, c27_G88, hc27, hr⟩ := hr
      have hFc := fr_all hD hS hA
      obtain ⟨i7, hi7⟩ := hW.o4 hk_this
      refine va_calli (va_runV (As := [.ref (ad a24)]) (rest := []) ⟨hx, hb, hml, hown, hts⟩ (m_X4_takeNew l dC dI kk ad H.size w5 (va_up (va_up G 80 c16_G80) 81 c16_G81) P U V X O kd ln cnt this a24 hk_this hk_a24 hW hT r27z c27_G80 c27_G81 c27_G84 c27_G85 c27_G86 c27_G87 c27_G88 hc27) (cwV 1 hts gc_RX4_X4_takeNew_94 rfl rfl rfl (by decide +kernel) ⟨Nat.le_of_ble_eq_true rfl, Nat.le_of_ble_eq_true rfl⟩) ⟨fun a U g mk q => by obtain ⟨q0, q1, qP, qK, qD⟩ := q; exact ⟨q0, q1, qP, va_K.moved (u := U) (U := U.calling g mk a) (Vm.Alike.refl U.vm) qK, qD⟩, va_recv hK hP (ci := 4) (q0 := i7) rfl hi7, fun U hU hW => ⟨rfl, by rw [hU], by rw [hU]; exact hP, va_K.moved hW.alike hK, hD.weaken (fun _ _ _ _ => trivial)⟩⟩ rfl rfl hl.1 rfl (lv_room (Nat.le_of_ble_eq_true rfl)) dX4_readPart_27 ⟨Nat.le_of_ble_eq_true rfl, Nat.le_of_ble_eq_true rfl⟩) hS (fun q _ h => hFc q h) hFc (fun r27 w8 t H1 locs ht hvm hw hB hz1 hk1 hS => ?_)
      obtain ⟨hw0, hW, hT⟩ := hw
      replace hw0 : r27 = r27z := hw0
      subst hw0
      obtain ⟨hP1, hK1, hD1⟩ := hB
      rw [ht] at hP1
      obtain ⟨hP, hD⟩ := jn_all (w1 := w8) hFc hP1 hD1
      replace hP : va_P (dC, dI) vwCl w8 H1 := hP
      replace hD : va_D A w8 := hD
      clear hFc hP1 hK1 hD1 hk1 hz1 ht hvm
      generalize H1 = H at hP hS ⊢
      refine lv_if_eq (tgt := 57) hx hb dX4_readPart_30 (by decide) (fun c30 => ?_) (fun c30 => ?_)
      · replace hr := iteT c30 hr
        have eG : (va_up (va_up (va_up (va_up (va_up (va_up (va_up (va_up (va_up G 80 c16_G80) 81 c16_G81) 80 c27_G80) 81 c27_G81) 84 c27_G84) 85 c27_G85) 86 c27_G86) 87 c27_G87) 88 c27_G88) = (va_up (va_up (va_up (va_up (va_up (va_up (va_up (va_up G 80 c27_G80) 81 c27_G81) 84 c27_G84) 85 c27_G85) 86 c27_G86) 87 c27_G87) 88 c27_G88) 203 (G 203)) := by
          funext k
          by_cases h80 : k = 80
          · subst h80; rfl
          by_cases h81 : k = 81
          · subst h81; rfl
          by_cases h84 : k = 84
          · subst h84; rfl
          by_cases h85 : k = 85
          · subst h85; rfl
          by_cases h86 : k = 86
          · subst h86; rfl
          by_cases h87 : k = 87
          · subst h87; rfl
          by_cases h88 : k = 88
          · subst h88; rfl
          by_cases h203 : k = 203
          · subst h203; rfl
          · simp only [va_up, h80, h81, h84, h85, h86, h87, h88, h203, if_false]
        rw [eG] at hW
        clear eG
        have eV : V = (va_up (va_up V 0 (V 0)) 1 (V 1)) := by
          funext k
          by_cases h0 : k = 0
          · subst h0; rfl
          by_cases h1 : k = 1
          · subst h1; rfl
          · simp only [va_up, h0, h1, if_false]
        rw [eV] at hW
        clear eV
        exact Jj57 c27_G80 c27_G81 c27_G84 c27_G85 c27_G86 c27_G87 c27_G88 (G 203) (V 0) (V 1) w8 H _ ls hr hW hT hP hD hS (lv_sub hl [] rfl)
      · replace hr := iteF c30 hr
        refine lv_aload_n hx hb dX4_readPart_33 rfl (lv_at hl 1 rfl) ?_
        obtain ⟨i9, hi9⟩ := hW.o5 hk_p0
        replace hr := nnS hr
        obtain ⟨a34, hn34, hr⟩ := hr
        have hk_a34 : kd a34 = 11 := hT.1 103 _ _ hn34
        refine va_get (D := (dC, dI)) (ci := 5) (v := .ref (ad a34)) (C := RX5) (T := TX5) (N := 11) hx hb hts inX5 hown hK hP i9 hi9 rfl 3 (by decide) (hts (.fieldLink RX4 120 "SpellTurner$Reform" "parts" "LSpellTurner$WordRow;") ic_410) (fun _ h9 => h9) (congrArg (fun o => some (va_re ad o)) hn34) dX4_readPart_34 ?_
        refine lv_aload_n hx hb dX4_readPart_37 rfl (lv_at hl 0 rfl) ?_
        obtain ⟨i10, hi10⟩ := hW.o4 hk_this
        replace hr := nnS hr
        obtain ⟨a38, hn38, hr⟩ := hr
        have hk_a38 : kd a38 = 100 := hT.1 82 _ _ hn38
        refine va_get (D := (dC, dI)) (ci := 4) (v := .ref (ad a38)) (C := RX4) (T := TX4) (N := 9) hx hb hts inX4 hown hK hP i10 hi10 rfl 2 (by decide) (hts (.fieldLink RX4 18 "SpellTurner$Reader" "text" "[B") ic_352) (fun _ h9 => h9) (congrArg (fun o => some (va_re ad o)) hn38) dX4_readPart_38 ?_
        refine lv_aload_n hx hb dX4_readPart_41 rfl (lv_at hl 0 rfl) ?_
        obtain ⟨i11, hi11⟩ := hW.o4 hk_this
        refine va_get (D := (dC, dI)) (ci := 4) (v := .int (c27_G87 this)) (C := RX4) (T := TX4) (N := 9) hx hb hts inX4 hown hK hP i11 hi11 rfl 7 (by decide) (hts (.fieldLink RX4 34 "SpellTurner$Reader" "start" "I") ic_349) (fun _ h9 => h9) rfl dX4_readPart_42 ?_
        refine lv_aload_n hx hb dX4_readPart_45 rfl (lv_at hl 0 rfl) ?_
        obtain ⟨i12, hi12⟩ := hW.o4 hk_this
        refine va_get (D := (dC, dI)) (ci := 4) (v := .int (c27_G88 this)) (C := RX4) (T := TX4) (N := 9) hx hb hts inX4 hown hK hP i12 hi12 rfl 8 (by decide) (hts (.fieldLink RX4 37 "SpellTurner$Reader" "length" "I") ic_351) (fun _ h9 => h9) rfl dX4_readPart_46 ?_
        replace hr := b3S hr
        obtain ⟨c49_G203, c49_V0, c49_V1, hc49, hr⟩ := hr
        have hFc := fr_all hD hS hA
        obtain ⟨i13, hi13⟩ := hW.o10 hk_a34
        refine va_callv (va_runV (As := [.ref (ad a38), .int (c27_G87 this), .int (c27_G88 this)]) (rest := []) ⟨hx, hb, hml, hown, hts⟩ (m_X10_add l dC dI kk ad H.size w8 (va_up (va_up (va_up (va_up (va_up (va_up (va_up (va_up (va_up G 80 c16_G80) 81 c16_G81) 80 c27_G80) 81 c27_G81) 84 c27_G84) 85 c27_G85) 86 c27_G86) 87 c27_G87) 88 c27_G88) P U V X O kd ln cnt a34 a38 (c27_G87 this) (c27_G88 this) hk_a34 hk_a38 hW hT c49_G203 c49_V0 c49_V1 hc49) (cwV 3 hts gc_RX4_X10_add_117 rfl rfl rfl (by decide +kernel) ⟨Nat.le_of_ble_eq_true rfl, Nat.le_of_ble_eq_true rfl⟩) ⟨fun a U g mk q => by obtain ⟨q0, q1, qP, qK, qD⟩ := q; exact ⟨q0, q1, qP, va_K.moved (u := U) (U := U.calling g mk a) (Vm.Alike.refl U.vm) qK, qD⟩, va_recv hK hP (ci := 10) (q0 := i13) rfl hi13, fun U hU hW => ⟨rfl, by rw [hU], by rw [hU]; exact hP, va_K.moved hW.alike hK, hD.weaken (fun _ _ _ _ => trivial)⟩⟩ rfl rfl hl.1 rfl (lv_room (Nat.le_of_ble_eq_true rfl)) dX4_readPart_49 ⟨Nat.le_of_ble_eq_true rfl, Nat.le_of_ble_eq_true rfl⟩) hS (fun q _ h => hFc q h) hFc (fun w14 t H1 locs ht hvm hw hB hz1 hk1 hS => ?_)
        obtain ⟨hW, hT⟩ := hw
        obtain ⟨hP1, hK1, hD1⟩ := hB
        rw [ht] at hP1
        obtain ⟨hP, hD⟩ := jn_all (w1 := w14) hFc hP1 hD1
        replace hP : va_P (dC, dI) vwCl w14 H1 := hP
        replace hD : va_D A w14 := hD
        clear hFc hP1 hK1 hD1 hk1 hz1 ht hvm
        generalize H1 = H at hP hS ⊢
        refine lv_aload_n hx hb dX4_readPart_52 rfl (lv_at hl 0 rfl) ?_
        replace hr := b8S hr
        obtain ⟨r53z, c53_G80, c53_G81, c53_G84, c53_G85, c53_G86, c53_G87, c53_G88, hc53, hr⟩ := hr
        have hFc := fr_all hD hS hA
        obtain ⟨i15, hi15⟩ := hW.o4 hk_this
        refine va_calli (va_runV (As := []) (rest := []) ⟨hx, hb, hml, hown, hts⟩ (m_X4_takeClose l dC dI kk ad H.size w14 (va_up (va_up (va_up (va_up (va_up (va_up (va_up (va_up (va_up (va_up G 80 c16_G80) 81 c16_G81) 80 c27_G80) 81 c27_G81) 84 c27_G84) 85 c27_G85) 86 c27_G86) 87 c27_G87) 88 c27_G88) 203 c49_G203) P U (va_up (va_up V 0 c49_V0) 1 c49_V1) X O kd ln cnt this hk_this hW hT r53z c53_G80 c53_G81 c53_G84 c53_G85 c53_G86 c53_G87 c53_G88 hc53) (cwV 0 hts gc_RX4_X4_takeClose_102 rfl rfl rfl (by decide +kernel) ⟨Nat.le_of_ble_eq_true rfl, Nat.le_of_ble_eq_true rfl⟩) ⟨fun a U g mk q => by obtain ⟨q0, q1, qP, qK, qD⟩ := q; exact ⟨q0, q1, qP, va_K.moved (u := U) (U := U.calling g mk a) (Vm.Alike.refl U.vm) qK, qD⟩, va_recv hK hP (ci := 4) (q0 := i15) rfl hi15, fun U hU hW => ⟨rfl, by rw [hU], by rw [hU]; exact hP, va_K.moved hW.alike hK, hD.weaken (fun _ _ _ _ => trivial)⟩⟩ rfl rfl hl.1 rfl (lv_room (Nat.le_of_ble_eq_true rfl)) dX4_readPart_53 ⟨Nat.le_of_ble_eq_true rfl, Nat.le_of_ble_eq_true rfl⟩) hS (fun q _ h => hFc q h) hFc (fun r53 w16 t H1 locs ht hvm hw hB hz1 hk1 hS => ?_)
        obtain ⟨hw0, hW, hT⟩ := hw
        replace hw0 : r53 = r53z := hw0
        subst hw0
        obtain ⟨hP1, hK1, hD1⟩ := hB
        rw [ht] at hP1
        obtain ⟨hP, hD⟩ := jn_all (w1 := w16) hFc hP1 hD1
        replace hP : va_P (dC, dI) vwCl w16 H1 := hP
        replace hD : va_D A w16 := hD
        clear hFc hP1 hK1 hD1 hk1 hz1 ht hvm
        generalize H1 = H at hP hS ⊢
        refine lv_pop hx hb dX4_readPart_56 rfl ?_
        have eG : (va_up (va_up (va_up (va_up (va_up (va_up (va_up (va_up (va_up (va_up (va_up (va_up (va_up (va_up (va_up (va_up (va_up G 80 c16_G80) 81 c16_G81) 80 c27_G80) 81 c27_G81) 84 c27_G84) 85 c27_G85) 86 c27_G86) 87 c27_G87) 88 c27_G88) 203 c49_G203) 80 c53_G80) 81 c53_G81) 84 c53_G84) 85 c53_G85) 86 c53_G86) 87 c53_G87) 88 c53_G88) = (va_up (va_up (va_up (va_up (va_up (va_up (va_up (va_up G 80 c53_G80) 81 c53_G81) 84 c53_G84) 85 c53_G85) 86 c53_G86) 87 c53_G87) 88 c53_G88) 203 c49_G203) := by
          funext k
          by_cases h80 : k = 80
          · subst h80; rfl
          by_cases h81 : k = 81
          · subst h81; rfl
          by_cases h84 : k = 84
          · subst h84; rfl
          by_cases h85 : k = 85
          · subst h85; rfl
          by_cases h86 : k = 86
          · subst h86; rfl
          by_cases h87 : k = 87
          · subst h87; rfl
          by_cases h88 : k = 88
          · subst h88; rfl
          by_cases h203 : k = 203
          · subst h203; rfl
          · simp only [va_up, h80, h81, h84, h85, h86, h87, h88, h203, if_false]
        rw [eG] at hW
        clear eG
        exact Jj57 c53_G80 c53_G81 c53_G84 c53_G85 c53_G86 c53_G87 c53_G88 c49_G203 c49_V0 c49_V1 w16 H _ ls hr hW hT hP hD hS (lv_sub hl [] rfl)
  refine lv_if_ne (tgt := 15) hx hb dX4_readPart_8 (by decide) (fun c8 => ?_) (fun c8 => ?_)
  · replace hr := iteF c8 hr
    refine lv_iconst (v := 0) hx hb dX4_readPart_15 (by decide +kernel) ?_
    exact Jj16 0 w3 H _ ls hr hW hT hP hD hS (lv_sub hl [0, 1] rfl)
  · replace hr := iteT c8 hr
    refine lv_iconst (v := 1) hx hb dX4_readPart_11 (by decide +kernel) ?_
    refine lv_goto (tgt := 16) hx hb dX4_readPart_12 (by decide) ?_
    exact Jj16 1 w3 H _ ls hr hW hT hP hD hS (lv_sub hl [0, 1] rfl)
set_option maxHeartbeats 4000000 in
set_option maxRecDepth 100000 in
theorem m_X4_readPart (l : Launch) (dC : Nat → ClassId) (dI : Nat → Nat → Nat) (kk : Nat → ClassId) (ad : Nat → Nat) (sz : Nat) (ws : va_W) (G : Nat → Nat → Int32) (P : Nat → Nat → Option Nat) (U : Nat → Nat → Int64) (V : Nat → Nat → Nat → Int32) (X : Nat → Nat → Nat → Int64) (O : Nat → Nat → Nat → Option Nat) (kd : Nat → Nat) (ln : Nat → Nat) (cnt : Nat) (this : Nat) (p0 : Nat) (hk_this : kd this = 5) (hk_p0 : kd p0 = 6) (hW : LW ws ad kk kd ln G P U V X O) (hT : TYP kd P O (V 0) cnt) (c_G80 : Nat → Int32) (c_G81 : Nat → Int32) (c_G84 : Nat → Int32) (c_G85 : Nat → Int32) (c_G86 : Nat → Int32) (c_G87 : Nat → Int32) (c_G88 : Nat → Int32) (c_G203 : Nat → Int32) (c_V0 : Nat → Nat → Int32) (c_V1 : Nat → Nat → Int32) (hr : f_X4_readPart G P U V X O kd ln cnt this p0 = some (c_G80, c_G81, c_G84, c_G85, c_G86, c_G87, c_G88, c_G203, c_V0, c_V1)) : Met l yX4_readPart vmX4_readPart ({ frames := 7, cells := 0, slots := 0, locals := 163 } : Room) (va_Pc [.ref (ad this), .ref (ad p0)] (fun U => U.heap.size = sz ∧ va_P (dC, dI) vwCl ws U.heap ∧ va_K (dC, dI) vwCl (cT kk) U ∧ va_D (fun _ => True) ws)) (va_Qv (fun w => LW w ad kk kd ln (va_up (va_up (va_up (va_up (va_up (va_up (va_up (va_up G 80 c_G80) 81 c_G81) 84 c_G84) 85 c_G85) 86 c_G86) 87 c_G87) 88 c_G88) 203 c_G203) P U (va_up (va_up V 0 c_V0) 1 c_V1) X O ∧ TYP kd P O c_V0 cnt) (fun w t => va_P (dC, dI) vwCl w t.heap ∧ va_K (dC, dI) vwCl (cT kk) t ∧ va_D (va_A ws sz) w) (va_A ws sz)) 0 0 (va_A ws sz) := by
  refine Met.ofW (cc := cX4_readPart) (maxL := 2) (ret := none) (by decide) rfl ?_
  intro p e s m args below meth c s₁ B hml hv
  obtain ⟨rfl, hsz, hP, hK, hD0⟩ := hv
  have hx := B.exec
  have hb := B.bytes
  have hrt := B.returns
  have hts := atoms_spec (ws := vmX4_readPart) B.pre
  have hown : s.vm.findClass RX4 = some m.cls := findClass_of_methodNamed B.named
  subst hsz
  have hD := hD0.self (sz := s.heap.size)
  generalize hAe : va_A ws s.heap.size = A at hD ⊢
  have hA : ∀ q : Nat, s.heap.size ≤ q → A q := fun q h => by rw [← hAe]; exact Or.inr h
  have hS : va_S A s.heap s.heap [] := va_S.rf
  have hl := lv_entry ([.ref (ad this), .ref (ad p0)]) (n := 2) (Nat.le_of_ble_eq_true rfl)
  rw [lg_entry_eq]
  generalize (lg_sl ([.ref (ad this), .ref (ad p0)]) ++ List.replicate (2 - (lg_sl ([.ref (ad this), .ref (ad p0)])).length) Slot.unset).toArray = ls at hl ⊢
  exact bm_X4_readPart this p0 hk_this hk_p0 c_G80 c_G81 c_G84 c_G85 c_G86 c_G87 c_G88 c_G203 c_V0 c_V1 hr hx hb hml hown hts hA hK hW hT hP hD hS hl (fun pc ls c_G80z c_G81z c_G84z c_G85z c_G86z c_G87z c_G88z c_G203z c_V0z c_V1z ws H locs he hd hW hT hP hD hS => by cases he; exact W.vret hx hb hrt (fun t ht hW9 => ⟨⟨ws, rfl, ⟨hW, hT⟩, by rw [ht]; exact hP, va_K.moved hW9.alike hK, hD⟩, hS.F ht⟩) hS.2.2 hd)
set_option maxHeartbeats 4000000 in
set_option maxRecDepth 100000 in
theorem bm_X4_readList {p : Program} {l : Launch} {e : Env} {s : State} {m : MethodId} {args : Array Value} {below : List Frame} {meth : Method} {c : Code} {Q : State → Prop} {A : Nat → Prop} {dC : Nat → ClassId} {dI : Nat → Nat → Nat} {kk : Nat → ClassId} {ad : Nat → Nat} {ws : va_W} {G : Nat → Nat → Int32} {P : Nat → Nat → Option Nat} {U : Nat → Nat → Int64} {V : Nat → Nat → Nat → Int32} {X : Nat → Nat → Nat → Int64} {O : Nat → Nat → Nat → Option Nat} {kd : Nat → Nat} {ln : Nat → Nat} {cnt : Nat} {H : Heap} {locs : List Loc} {ls : Array Slot} (this : Nat) (p0 : Nat) (hk_this : kd this = 5) (hk_p0 : kd p0 = 6) (c_G80 : Nat → Int32) (c_G81 : Nat → Int32) (c_G84 : Nat → Int32) (c_G85 : Nat → Int32) (c_G86 : Nat → Int32) (c_G87 : Nat → Int32) (c_G88 : Nat → Int32) (c_G107 : Nat → Int32) (c_G203 : Nat → Int32) (c_V0 : Nat → Nat → Int32) (c_V1 : Nat → Nat → Int32) (c_V10 : Nat → Nat → Int32) (hr : f_X4_readList G P U V X O kd ln cnt this p0 = some (c_G80, c_G81, c_G84, c_G85, c_G86, c_G87, c_G88, c_G107, c_G203, c_V0, c_V1, c_V10)) (hx : p.tables.exec = Jvm.exec) (hb : c.code = cX4_readList) (hml : c.maxLocals = 2) (hown : s.vm.findClass RX4 = some m.cls) (hts : ∀ w ∈ vmX4_readList, w.before args s = true) (hA : ∀ q : Nat, s.heap.size ≤ q → A q) (hK : va_K (dC, dI) vwCl (cT kk) s) {adK adV : Nat → Nat} (hSE : SE adK adV A s) (hW : LW ws ad kk kd ln G P U V X O) (hT : TYP kd P O (V 0) cnt) (hP : va_P (dC, dI) vwCl ws H) (hD : va_D A ws) (hS : va_S A s.heap H locs) (hl : lv_has ls 2 [(0, .ref (ad this)), (1, .ref (ad p0))])
    (K : ∀ (pc : Nat) (ls : Array Slot) (c_G80z : Nat → Int32) (c_G81z : Nat → Int32) (c_G84z : Nat → Int32) (c_G85z : Nat → Int32) (c_G86z : Nat → Int32) (c_G87z : Nat → Int32) (c_G88z : Nat → Int32) (c_G107z : Nat → Int32) (c_G203z : Nat → Int32) (c_V0z : Nat → Nat → Int32) (c_V1z : Nat → Nat → Int32) (c_V10z : Nat → Nat → Int32) (ws : va_W) (H : Heap) (locs : List Loc), some (c_G80z, c_G81z, c_G84z, c_G85z, c_G86z, c_G87z, c_G88z, c_G107z, c_G203z, c_V0z, c_V1z, c_V10z) = some (c_G80, c_G81, c_G84, c_G85, c_G86, c_G87, c_G88, c_G107, c_G203, c_V0, c_V1, c_V10) → decode cX4_readList pc = .ok (.return_, 1) → LW ws ad kk kd ln (va_up (va_up (va_up (va_up (va_up (va_up (va_up (va_up (va_up G 80 c_G80z) 81 c_G81z) 84 c_G84z) 85 c_G85z) 86 c_G86z) 87 c_G87z) 88 c_G88z) 107 c_G107z) 203 c_G203z) P U (va_up (va_up (va_up V 0 c_V0z) 1 c_V1z) 10 c_V10z) X O → TYP kd P O c_V0z cnt → va_P (dC, dI) vwCl ws H → va_D A ws → va_S A s.heap H locs → W p l e ({ frames := 8, cells := 0, slots := 0, locals := 382 } : Room) s m args below meth c H locs 0 0 Q (F0 m pc ls [])) : W p l e ({ frames := 8, cells := 0, slots := 0, locals := 382 } : Room) s m args below meth c H locs 0 0 Q (F0 m 0 ls []) := by
  unfold f_X4_readList at hr
  refine lv_aload_n hx hb dX4_readList_0 rfl (lv_at hl 0 rfl) ?_
  refine lv_aload_n hx hb dX4_readList_1 rfl (lv_at hl 1 rfl) ?_
  obtain ⟨i1, hi1⟩ := hW.o5 hk_p0
  replace hr := nnS hr
  obtain ⟨a2, hn2, hr⟩ := hr
  have hk_a2 : kd a2 = 11 := hT.1 104 _ _ hn2
  refine va_get (D := (dC, dI)) (ci := 5) (v := .ref (ad a2)) (C := RX5) (T := TX5) (N := 11) hx hb hts inX5 hown hK hP i1 hi1 rfl 4 (by decide) (hts (.fieldLink RX4 78 "SpellTurner$Reform" "entries" "LSpellTurner$WordRow;") ic_395) (fun _ h9 => h9) (congrArg (fun o => some (va_re ad o)) hn2) dX4_readList_2 ?_
  replace hr := b1S hr
  obtain ⟨r5z, hc5, hr⟩ := hr
  have hFc := fr_all hD hS hA
  obtain ⟨i2, hi2⟩ := hW.o10 hk_a2
  refine va_calli (va_runV (As := []) (rest := [.ref (ad this)]) ⟨hx, hb, hml, hown, hts⟩ (m_X10_isFull l dC dI kk ad H.size ws G P U V X O kd ln cnt a2 hk_a2 hW hT r5z hc5) (cwV 0 hts gc_RX4_X10_isFull_84 rfl rfl rfl (by decide +kernel) ⟨Nat.le_of_ble_eq_true rfl, Nat.le_of_ble_eq_true rfl⟩) ⟨fun a U g mk q => by obtain ⟨q0, q1, qP, qK, qD⟩ := q; exact ⟨q0, q1, qP, va_K.moved (u := U) (U := U.calling g mk a) (Vm.Alike.refl U.vm) qK, qD⟩, va_recv hK hP (ci := 10) (q0 := i2) rfl hi2, fun U hU hW => ⟨rfl, by rw [hU], by rw [hU]; exact hP, va_K.moved hW.alike hK, hD.weaken (fun _ _ _ _ => trivial)⟩⟩ rfl rfl hl.1 rfl (lv_room (Nat.le_of_ble_eq_true rfl)) dX4_readList_5 ⟨Nat.le_of_ble_eq_true rfl, Nat.le_of_ble_eq_true rfl⟩) hS (fun q _ h => hFc q h) hFc (fun r5 w3 t H1 locs ht hvm hw hB hz1 hk1 hS => ?_)
  obtain ⟨hw0, hW, hT⟩ := hw
  replace hw0 : r5 = r5z := hw0
  subst hw0
  obtain ⟨hP1, hK1, hD1⟩ := hB
  rw [ht] at hP1
  obtain ⟨hP, hD⟩ := jn_all (w1 := w3) hFc hP1 hD1
  replace hP : va_P (dC, dI) vwCl w3 H1 := hP
  replace hD : va_D A w3 := hD
  clear hFc hP1 hK1 hD1 hk1 hz1 ht hvm
  generalize H1 = H at hP hS ⊢
  replace hr := jnS hr
  obtain ⟨j16, hj16, hr⟩ := hr
  have Jj16 : ∀ (t16_0 : Int32) (ws : va_W) (H : Heap) (locs : List Loc) (ls : Array Slot), j16 t16_0 = some (c_G80, c_G81, c_G84, c_G85, c_G86, c_G87, c_G88, c_G107, c_G203, c_V0, c_V1, c_V10) → LW ws ad kk kd ln G P U V X O → TYP kd P O (V 0) cnt → va_P (dC, dI) vwCl ws H → va_D A ws → va_S A s.heap H locs → lv_has ls 2 [(0, .ref (ad this)), (1, .ref (ad p0))] → W p l e ({ frames := 8, cells := 0, slots := 0, locals := 382 } : Room) s m args below meth c H locs 0 0 Q (F0 m 16 ls [.int t16_0, .ref (ad this)]) := by
    intro t16_0 ws H locs ls hr hW hT hP hD hS hl
    rw [hj16] at hr
    replace hr := b3S hr
    obtain ⟨r16z, c16_G80, c16_G81, hc16, hr⟩ := hr
    have hFc := fr_all hD hS hA
    obtain ⟨i4, hi4⟩ := hW.o4 hk_this
    refine va_calli (va_runV (As := [.int t16_0]) (rest := []) ⟨hx, hb, hml, hown, hts⟩ (m_X4_hasRoom l dC dI kk ad H.size ws G P U V X O kd ln cnt this t16_0 hk_this hW hT r16z c16_G80 c16_G81 hc16) (cwV 1 hts gc_RX4_X4_hasRoom_90 rfl rfl rfl (by decide +kernel) ⟨Nat.le_of_ble_eq_true rfl, Nat.le_of_ble_eq_true rfl⟩) ⟨fun a U g mk q => by obtain ⟨q0, q1, qP, qK, qD⟩ := q; exact ⟨q0, q1, qP, va_K.moved (u := U) (U := U.calling g mk a) (Vm.Alike.refl U.vm) qK, qD⟩, va_recv hK hP (ci := 4) (q0 := i4) rfl hi4, fun U hU hW => ⟨rfl, by rw [hU], by rw [hU]; exact hP, va_K.moved hW.alike hK, hD.weaken (fun _ _ _ _ => trivial)⟩⟩ rfl rfl hl.1 rfl (lv_room (Nat.le_of_ble_eq_true rfl)) dX4_readList_16 ⟨Nat.le_of_ble_eq_true rfl, Nat.le_of_ble_eq_true rfl⟩) hS (fun q _ h => hFc q h) hFc (fun r16 w5 t H1 locs ht hvm hw hB hz1 hk1 hS => ?_)
    obtain ⟨hw0, hW, hT⟩ := hw
    replace hw0 : r16 = r16z := hw0
    subst hw0
    obtain ⟨hP1, hK1, hD1⟩ := hB
    rw [ht] at hP1
    obtain ⟨hP, hD⟩ := jn_all (w1 := w5) hFc hP1 hD1
    replace hP : va_P (dC, dI) vwCl w5 H1 := hP
    replace hD : va_D A w5 := hD
    clear hFc hP1 hK1 hD1 hk1 hz1 ht hvm
    generalize H1 = H at hP hS ⊢
    replace hr := jnS hr
    obtain ⟨j88, hj88, hr⟩ := hr
    have Jj88 : ∀ (c88_G80 : Nat → Int32) (c88_G81 : Nat → Int32) (c88_G84 : Nat → Int32) (c88_G85 : Nat → Int32) (c88_G86 : Nat → Int32) (c88_G87 : Nat → Int32) (c88_G88 : Nat → Int32) (c88_G107 : Nat → Int32) (c88_G203 : Nat → Int32) (c88_V0 : Nat → Nat → Int32) (c88_V1 : Nat → Nat → Int32) (c88_V10 : Nat → Nat → Int32) (ws : va_W) (H : Heap) (locs : List Loc) (ls : Array Slot), j88 c88_G80 c88_G81 c88_G84 c88_G85 c88_G86 c88_G87 c88_G88 c88_G107 c88_G203 c88_V0 c88_V1 c88_V10 = some (c_G80, c_G81, c_G84, c_G85, c_G86, c_G87, c_G88, c_G107, c_G203, c_V0, c_V1, c_V10) → LW ws ad kk kd ln (va_up (va_up (va_up (va_up (va_up (va_up (va_up (va_up (va_up G 80 c88_G80) 81 c88_G81) 84 c88_G84) 85 c88_G85) 86 c88_G86) 87 c88_G87) 88 c88_G88) 107 c88_G107) 203 c88_G203) P U (va_up (va_up (va_up V 0 c88_V0) 1 c88_V1) 10 c88_V10) X O → TYP kd P O c88_V0 cnt → va_P (dC, dI) vwCl ws H → va_D A ws → va_S A s.heap H locs → lv_has ls 2 [] → W p l e ({ frames := 8, cells := 0, slots := 0, locals := 382 } : Room) s m args below meth c H locs 0 0 Q (F0 m 88 ls []) := by
      intro c88_G80 c88_G81 c88_G84 c88_G85 c88_G86 c88_G87 c88_G88 c88_G107 c88_G203 c88_V0 c88_V1 c88_V10 ws H locs ls hr hW hT hP hD hS hl
      rw [hj88] at hr
      exact K 88 ls _ _ _ _ _ _ _ _ _ _ _ _ ws H _ hr dX4_readList_88 hW hT hP hD hS
    refine lv_if_eq (tgt := 88) hx hb dX4_readList_19 (by decide) (fun c19 => ?_) (fun c19 => ?_)
    · replace hr := iteT c19 hr
      have eG : (va_up (va_up G 80 c16_G80) 81 c16_G81) = (va_up (va_up (va_up (va_up (va_up (va_up (va_up (va_up (va_up G 80 c16_G80) 81 c16_G81) 84 (G 84)) 85 (G 85)) 86 (G 86)) 87 (G 87)) 88 (G 88)) 107 (G 107)) 203 (G 203)) := by
        funext k
        by_cases h80 : k = 80
        · subst h80; rfl
        by_cases h81 : k = 81
        · subst h81; rfl
        by_cases h84 : k = 84
        · subst h84; rfl
        by_cases h85 : k = 85
        · subst h85; rfl
        by_cases h86 : k = 86
        · subst h86; rfl
        by_cases h87 : k = 87
        · subst h87; rfl
        by_cases h88 : k = 88
        · subst h88; rfl
        by_cases h107 : k = 107
        · subst h107; rfl
        by_cases h203 : k = 203
        · subst h203; rfl
        · simp only [va_up, h80, h81, h84, h85, h86, h87, h88, h107, h203, if_false]
      rw [eG] at hW
      clear eG
      have eV : V = (va_up (va_up (va_up V 0 (V 0)) 1 (V 1)) 10 (V 10)) := by
        funext k
        by_cases h0 : k = 0
        · subst h0; rfl
        by_cases h1 : k = 1
        · subst h1; rfl
        by_cases h10 : k = 10
        · subst h10; rfl
        · simp only [va_up, h0, h1, h10, if_false]
      rw [eV] at hW
      clear eV
      exact Jj88 c16_G80 c16_G81 (G 84) (G 85) (G 86) (G 87) (G 88) (G 107) (G 203) (V 0) (V 1) (V 10) w5 H _ ls hr hW hT hP hD hS (lv_sub hl [] rfl)
    · replace hr := iteF c19 hr
      refine lv_aload_n hx hb dX4_readList_22 rfl (lv_at hl 0 rfl) ?_
      refine lv_aload_n hx hb dX4_readList_23 rfl (lv_at hl 1 rfl) ?_
      obtain ⟨i6, hi6⟩ := hW.o5 hk_p0
      replace hr := nnS hr
      obtain ⟨a24, hn24, hr⟩ := hr
      have hk_a24 : kd a24 = 11 := hT.1 104 _ _ hn24
      refine va_get (D := (dC, dI)) (ci := 5) (v := .ref (ad a24)) (C := RX5) (T := TX5) (N := 11) hx hb hts inX5 hown hK hP i6 hi6 rfl 4 (by decide) (hts (.fieldLink RX4 78 "SpellTurner$Reform" "entries" "LSpellTurner$WordRow;") ic_395) (fun _ h9 => h9) (congrArg (fun o => some (va_re ad o)) hn24) dX4_readList_24 ?_
      replace hr := b8S hr
      obtain ⟨r27z, c27_G80, c27_G81, c27_G84, c27_G85, c27_G86, c27_G87, c27_G88, hc27, hr⟩ := hr
      have hFc := fr_all hD hS hA
      obtain ⟨i7, hi7⟩ := hW.o4 hk_this
      refine va_calli (va_runV (As := [.ref (ad a24)]) (rest := []) ⟨hx, hb, hml, hown, hts⟩ (m_X4_takeNew l dC dI kk ad H.size w5 (va_up (va_up G 80 c16_G80) 81 c16_G81) P U V X O kd ln cnt this a24 hk_this hk_a24 hW hT r27z c27_G80 c27_G81 c27_G84 c27_G85 c27_G86 c27_G87 c27_G88 hc27) (cwV 1 hts gc_RX4_X4_takeNew_94 rfl rfl rfl (by decide +kernel) ⟨Nat.le_of_ble_eq_true rfl, Nat.le_of_ble_eq_true rfl⟩) ⟨fun a U g mk q => by obtain ⟨q0, q1, qP, qK, qD⟩ := q; exact ⟨q0, q1, qP, va_K.moved (u := U) (U := U.calling g mk a) (Vm.Alike.refl U.vm) qK, qD⟩, va_recv hK hP (ci := 4) (q0 := i7) rfl hi7, fun U hU hW => ⟨rfl, by rw [hU], by rw [hU]; exact hP, va_K.moved hW.alike hK, hD.weaken (fun _ _ _ _ => trivial)⟩⟩ rfl rfl hl.1 rfl (lv_room (Nat.le_of_ble_eq_true rfl)) dX4_readList_27 ⟨Nat.le_of_ble_eq_true rfl, Nat.le_of_ble_eq_true rfl⟩) hS (fun q _ h => hFc q h) hFc (fun r27 w8 t H1 locs ht hvm hw hB hz1 hk1 hS => ?_)
      obtain ⟨hw0, hW, hT⟩ := hw
      replace hw0 : r27 = r27z := hw0
      subst hw0
      obtain ⟨hP1, hK1, hD1⟩ := hB
      rw [ht] at hP1
      obtain ⟨hP, hD⟩ := jn_all (w1 := w8) hFc hP1 hD1
      replace hP : va_P (dC, dI) vwCl w8 H1 := hP
      replace hD : va_D A w8 := hD
      clear hFc hP1 hK1 hD1 hk1 hz1 ht hvm
      generalize H1 = H at hP hS ⊢
      refine lv_if_eq (tgt := 88) hx hb dX4_readList_30 (by decide) (fun c30 => ?_) (fun c30 => ?_)
      · replace hr := iteT c30 hr
        have eG : (va_up (va_up (va_up (va_up (va_up (va_up (va_up (va_up (va_up G 80 c16_G80) 81 c16_G81) 80 c27_G80) 81 c27_G81) 84 c27_G84) 85 c27_G85) 86 c27_G86) 87 c27_G87) 88 c27_G88) = (va_up (va_up (va_up (va_up (va_up (va_up (va_up (va_up (va_up G 80 c27_G80) 81 c27_G81) 84 c27_G84) 85 c27_G85) 86 c27_G86) 87 c27_G87) 88 c27_G88) 107 (G 107)) 203 (G 203)) := by
          funext k
          by_cases h80 : k = 80
          · subst h80; rfl
          by_cases h81 : k = 81
          · subst h81; rfl
          by_cases h84 : k = 84
          · subst h84; rfl
          by_cases h85 : k = 85
          · subst h85; rfl
          by_cases h86 : k = 86
          · subst h86; rfl
          by_cases h87 : k = 87
          · subst h87; rfl
          by_cases h88 : k = 88
          · subst h88; rfl
          by_cases h107 : k = 107
          · subst h107; rfl
          by_cases h203 : k = 203
          · subst h203; rfl
          · simp only [va_up, h80, h81, h84, h85, h86, h87, h88, h107, h203, if_false]
        rw [eG] at hW
        clear eG
        have eV : V = (va_up (va_up (va_up V 0 (V 0)) 1 (V 1)) 10 (V 10)) := by
          funext k
          by_cases h0 : k = 0
          · subst h0; rfl
          by_cases h1 : k = 1
          · subst h1; rfl
          by_cases h10 : k = 10
          · subst h10; rfl
          · simp only [va_up, h0, h1, h10, if_false]
        rw [eV] at hW
        clear eV
        exact Jj88 c27_G80 c27_G81 c27_G84 c27_G85 c27_G86 c27_G87 c27_G88 (G 107) (G 203) (V 0) (V 1) (V 10) w8 H _ ls hr hW hT hP hD hS (lv_sub hl [] rfl)
      · replace hr := iteF c30 hr
        refine lv_aload_n hx hb dX4_readList_33 rfl (lv_at hl 1 rfl) ?_
        refine lv_aload_n hx hb dX4_readList_34 rfl (lv_at hl 0 rfl) ?_
        obtain ⟨i9, hi9⟩ := hW.o4 hk_this
        replace hr := nnS hr
        obtain ⟨a35, hn35, hr⟩ := hr
        have hk_a35 : kd a35 = 100 := hT.1 82 _ _ hn35
        refine va_get (D := (dC, dI)) (ci := 4) (v := .ref (ad a35)) (C := RX4) (T := TX4) (N := 9) hx hb hts inX4 hown hK hP i9 hi9 rfl 2 (by decide) (hts (.fieldLink RX4 18 "SpellTurner$Reader" "text" "[B") ic_352) (fun _ h9 => h9) (congrArg (fun o => some (va_re ad o)) hn35) dX4_readList_35 ?_
        refine lv_aload_n hx hb dX4_readList_38 rfl (lv_at hl 0 rfl) ?_
        obtain ⟨i10, hi10⟩ := hW.o4 hk_this
        refine va_get (D := (dC, dI)) (ci := 4) (v := .int (c27_G87 this)) (C := RX4) (T := TX4) (N := 9) hx hb hts inX4 hown hK hP i10 hi10 rfl 7 (by decide) (hts (.fieldLink RX4 34 "SpellTurner$Reader" "start" "I") ic_349) (fun _ h9 => h9) rfl dX4_readList_39 ?_
        refine lv_aload_n hx hb dX4_readList_42 rfl (lv_at hl 0 rfl) ?_
        obtain ⟨i11, hi11⟩ := hW.o4 hk_this
        refine va_get (D := (dC, dI)) (ci := 4) (v := .int (c27_G88 this)) (C := RX4) (T := TX4) (N := 9) hx hb hts inX4 hown hK hP i11 hi11 rfl 8 (by decide) (hts (.fieldLink RX4 37 "SpellTurner$Reader" "length" "I") ic_351) (fun _ h9 => h9) rfl dX4_readList_43 ?_
        replace hr := b5S hr
        obtain ⟨c46_G107, c46_G203, c46_V0, c46_V1, c46_V10, hc46, hr⟩ := hr
        have hFc := fr_all hD hS hA
        obtain ⟨i12, hi12⟩ := hW.o5 hk_p0
        refine va_callv (va_runV (As := [.ref (ad a35), .int (c27_G87 this), .int (c27_G88 this)]) (rest := []) ⟨hx, hb, hml, hown, hts⟩ (m_X5_addListed l dC dI kk ad H.size w8 (va_up (va_up (va_up (va_up (va_up (va_up (va_up (va_up (va_up G 80 c16_G80) 81 c16_G81) 80 c27_G80) 81 c27_G81) 84 c27_G84) 85 c27_G85) 86 c27_G86) 87 c27_G87) 88 c27_G88) P U V X O kd ln cnt p0 a35 (c27_G87 this) (c27_G88 this) hk_p0 hk_a35 hW hT c46_G107 c46_G203 c46_V0 c46_V1 c46_V10 hc46) (cwV 3 hts gc_RX4_X5_addListed_105 rfl rfl rfl (by decide +kernel) ⟨Nat.le_of_ble_eq_true rfl, Nat.le_of_ble_eq_true rfl⟩) ⟨fun a U g mk q => by obtain ⟨q0, q1, qP, qK, qD⟩ := q; exact ⟨q0, q1, qP, va_K.moved (u := U) (U := U.calling g mk a) (Vm.Alike.refl U.vm) qK, qD⟩, va_recv hK hP (ci := 5) (q0 := i12) rfl hi12, fun U hU hW => ⟨rfl, by rw [hU], by rw [hU]; exact hP, va_K.moved hW.alike hK, hD.weaken (fun _ _ _ _ => trivial)⟩⟩ rfl rfl hl.1 rfl (lv_room (Nat.le_of_ble_eq_true rfl)) dX4_readList_46 ⟨Nat.le_of_ble_eq_true rfl, Nat.le_of_ble_eq_true rfl⟩) hS (fun q _ h => hFc q h) hFc (fun w13 t H1 locs ht hvm hw hB hz1 hk1 hS => ?_)
        obtain ⟨hW, hT⟩ := hw
        obtain ⟨hP1, hK1, hD1⟩ := hB
        rw [ht] at hP1
        obtain ⟨hP, hD⟩ := jn_all (w1 := w13) hFc hP1 hD1
        replace hP : va_P (dC, dI) vwCl w13 H1 := hP
        replace hD : va_D A w13 := hD
        clear hFc hP1 hK1 hD1 hk1 hz1 ht hvm
        generalize H1 = H at hP hS ⊢
        refine lv_aload_n hx hb dX4_readList_49 rfl (lv_at hl 0 rfl) ?_
        replace hr := b8S hr
        obtain ⟨r50z, c50_G80, c50_G81, c50_G84, c50_G85, c50_G86, c50_G87, c50_G88, hc50, hr⟩ := hr
        have hFc := fr_all hD hS hA
        obtain ⟨i14, hi14⟩ := hW.o4 hk_this
        refine va_calli (va_runV (As := []) (rest := []) ⟨hx, hb, hml, hown, hts⟩ (m_X4_takeTo l dC dI adK adV kk ad H.size w13 (va_up (va_up (va_up (va_up (va_up (va_up (va_up (va_up (va_up (va_up (va_up G 80 c16_G80) 81 c16_G81) 80 c27_G80) 81 c27_G81) 84 c27_G84) 85 c27_G85) 86 c27_G86) 87 c27_G87) 88 c27_G88) 107 c46_G107) 203 c46_G203) P U (va_up (va_up (va_up V 0 c46_V0) 1 c46_V1) 10 c46_V10) X O kd ln cnt this hk_this hW hT r50z c50_G80 c50_G81 c50_G84 c50_G85 c50_G86 c50_G87 c50_G88 hc50) (cwV 0 hts gc_RX4_X4_takeTo_108 rfl rfl rfl (by decide +kernel) ⟨Nat.le_of_ble_eq_true rfl, Nat.le_of_ble_eq_true rfl⟩) ⟨fun a U g mk q => by obtain ⟨q0, q1, qP, qK, qD, qS⟩ := q; exact ⟨q0, q1, qP, va_K.moved (u := U) (U := U.calling g mk a) (Vm.Alike.refl U.vm) qK, qD, qS.calling⟩, va_recv hK hP (ci := 4) (q0 := i14) rfl hi14, fun U hU hW => ⟨rfl, by rw [hU], by rw [hU]; exact hP, va_K.moved hW.alike hK, hD.weaken (fun _ _ _ _ => trivial), (hSE.warm hS hU hW).narrow hFc⟩⟩ rfl rfl hl.1 rfl (lv_room (Nat.le_of_ble_eq_true rfl)) dX4_readList_50 ⟨Nat.le_of_ble_eq_true rfl, Nat.le_of_ble_eq_true rfl⟩) hS (fun q _ h => hFc q h) hFc (fun r50 w15 t H1 locs ht hvm hw hB hz1 hk1 hS => ?_)
        obtain ⟨hw0, hW, hT⟩ := hw
        replace hw0 : r50 = r50z := hw0
        subst hw0
        obtain ⟨hP1, hK1, hD1⟩ := hB
        rw [ht] at hP1
        obtain ⟨hP, hD⟩ := jn_all (w1 := w15) hFc hP1 hD1
        replace hP : va_P (dC, dI) vwCl w15 H1 := hP
        replace hD : va_D A w15 := hD
        clear hFc hP1 hK1 hD1 hk1 hz1 ht hvm
        generalize H1 = H at hP hS ⊢
        refine lv_if_eq (tgt := 88) hx hb dX4_readList_53 (by decide) (fun c53 => ?_) (fun c53 => ?_)
        · replace hr := iteT c53 hr
          have eG : (va_up (va_up (va_up (va_up (va_up (va_up (va_up (va_up (va_up (va_up (va_up (va_up (va_up (va_up (va_up (va_up (va_up (va_up G 80 c16_G80) 81 c16_G81) 80 c27_G80) 81 c27_G81) 84 c27_G84) 85 c27_G85) 86 c27_G86) 87 c27_G87) 88 c27_G88) 107 c46_G107) 203 c46_G203) 80 c50_G80) 81 c50_G81) 84 c50_G84) 85 c50_G85) 86 c50_G86) 87 c50_G87) 88 c50_G88) = (va_up (va_up (va_up (va_up (va_up (va_up (va_up (va_up (va_up G 80 c50_G80) 81 c50_G81) 84 c50_G84) 85 c50_G85) 86 c50_G86) 87 c50_G87) 88 c50_G88) 107 c46_G107) 203 c46_G203) := by
            funext k
            by_cases h80 : k = 80
            · subst h80; rfl
            by_cases h81 : k = 81
            · subst h81; rfl
            by_cases h84 : k = 84
            · subst h84; rfl
            by_cases h85 : k = 85
            · subst h85; rfl
            by_cases h86 : k = 86
            · subst h86; rfl
            by_cases h87 : k = 87
            · subst h87; rfl
            by_cases h88 : k = 88
            · subst h88; rfl
            by_cases h107 : k = 107
            · subst h107; rfl
            by_cases h203 : k = 203
            · subst h203; rfl
            · simp only [va_up, h80, h81, h84, h85, h86, h87, h88, h107, h203, if_false]
          rw [eG] at hW
          clear eG
          exact Jj88 c50_G80 c50_G81 c50_G84 c50_G85 c50_G86 c50_G87 c50_G88 c46_G107 c46_G203 c46_V0 c46_V1 c46_V10 w15 H _ ls hr hW hT hP hD hS (lv_sub hl [] rfl)
        · replace hr := iteF c53 hr
          refine lv_aload_n hx hb dX4_readList_56 rfl (lv_at hl 0 rfl) ?_
          refine lv_iconst (v := 1) hx hb dX4_readList_57 (by decide +kernel) ?_
          replace hr := b8S hr
          obtain ⟨r58z, c58_G80, c58_G81, c58_G84, c58_G85, c58_G86, c58_G87, c58_G88, hc58, hr⟩ := hr
          have hFc := fr_all hD hS hA
          obtain ⟨i16, hi16⟩ := hW.o4 hk_this
          refine va_calli (va_runV (As := [.int 1]) (rest := []) ⟨hx, hb, hml, hown, hts⟩ (m_X4_takeLetters l dC dI kk ad H.size w15 (va_up (va_up (va_up (va_up (va_up (va_up (va_up (va_up (va_up (va_up (va_up (va_up (va_up (va_up (va_up (va_up (va_up (va_up G 80 c16_G80) 81 c16_G81) 80 c27_G80) 81 c27_G81) 84 c27_G84) 85 c27_G85) 86 c27_G86) 87 c27_G87) 88 c27_G88) 107 c46_G107) 203 c46_G203) 80 c50_G80) 81 c50_G81) 84 c50_G84) 85 c50_G85) 86 c50_G86) 87 c50_G87) 88 c50_G88) P U (va_up (va_up (va_up V 0 c46_V0) 1 c46_V1) 10 c46_V10) X O kd ln cnt this 1 hk_this hW hT r58z c58_G80 c58_G81 c58_G84 c58_G85 c58_G86 c58_G87 c58_G88 hc58) (cwV 1 hts gc_RX4_X4_takeLetters_111 rfl rfl rfl (by decide +kernel) ⟨Nat.le_of_ble_eq_true rfl, Nat.le_of_ble_eq_true rfl⟩) ⟨fun a U g mk q => by obtain ⟨q0, q1, qP, qK, qD⟩ := q; exact ⟨q0, q1, qP, va_K.moved (u := U) (U := U.calling g mk a) (Vm.Alike.refl U.vm) qK, qD⟩, va_recv hK hP (ci := 4) (q0 := i16) rfl hi16, fun U hU hW => ⟨rfl, by rw [hU], by rw [hU]; exact hP, va_K.moved hW.alike hK, hD.weaken (fun _ _ _ _ => trivial)⟩⟩ rfl rfl hl.1 rfl (lv_room (Nat.le_of_ble_eq_true rfl)) dX4_readList_58 ⟨Nat.le_of_ble_eq_true rfl, Nat.le_of_ble_eq_true rfl⟩) hS (fun q _ h => hFc q h) hFc (fun r58 w17 t H1 locs ht hvm hw hB hz1 hk1 hS => ?_)
          obtain ⟨hw0, hW, hT⟩ := hw
          replace hw0 : r58 = r58z := hw0
          subst hw0
          obtain ⟨hP1, hK1, hD1⟩ := hB
          rw [ht] at hP1
          obtain ⟨hP, hD⟩ := jn_all (w1 := w17) hFc hP1 hD1
          replace hP : va_P (dC, dI) vwCl w17 H1 := hP
          replace hD : va_D A w17 := hD
          clear hFc hP1 hK1 hD1 hk1 hz1 ht hvm
          generalize H1 = H at hP hS ⊢
          refine lv_if_eq (tgt := 88) hx hb dX4_readList_61 (by decide) (fun c61 => ?_) (fun c61 => ?_)
          · replace hr := iteT c61 hr
            have eG : (va_up (va_up (va_up (va_up (va_up (va_up (va_up (va_up (va_up (va_up (va_up (va_up (va_up (va_up (va_up (va_up (va_up (va_up (va_up (va_up (va_up (va_up (va_up (va_up (va_up G 80 c16_G80) 81 c16_G81) 80 c27_G80) 81 c27_G81) 84 c27_G84) 85 c27_G85) 86 c27_G86) 87 c27_G87) 88 c27_G88) 107 c46_G107) 203 c46_G203) 80 c50_G80) 81 c50_G81) 84 c50_G84) 85 c50_G85) 86 c50_G86) 87 c50_G87) 88 c50_G88) 80 c58_G80) 81 c58_G81) 84 c58_G84) 85 c58_G85) 86 c58_G86) 87 c58_G87) 88 c58_G88) = (va_up (va_up (va_up (va_up (va_up (va_up (va_up (va_up (va_up G 80 c58_G80) 81 c58_G81) 84 c58_G84) 85 c58_G85) 86 c58_G86) 87 c58_G87) 88 c58_G88) 107 c46_G107) 203 c46_G203) := by
              funext k
              by_cases h80 : k = 80
              · subst h80; rfl
              by_cases h81 : k = 81
              · subst h81; rfl
              by_cases h84 : k = 84
              · subst h84; rfl
              by_cases h85 : k = 85
              · subst h85; rfl
              by_cases h86 : k = 86
              · subst h86; rfl
              by_cases h87 : k = 87
              · subst h87; rfl
              by_cases h88 : k = 88
              · subst h88; rfl
              by_cases h107 : k = 107
              · subst h107; rfl
              by_cases h203 : k = 203
              · subst h203; rfl
              · simp only [va_up, h80, h81, h84, h85, h86, h87, h88, h107, h203, if_false]
            rw [eG] at hW
            clear eG
            exact Jj88 c58_G80 c58_G81 c58_G84 c58_G85 c58_G86 c58_G87 c58_G88 c46_G107 c46_G203 c46_V0 c46_V1 c46_V10 w17 H _ ls hr hW hT hP hD hS (lv_sub hl [] rfl)
          · replace hr := iteF c61 hr
            refine lv_aload_n hx hb dX4_readList_64 rfl (lv_at hl 1 rfl) ?_
            obtain ⟨i18, hi18⟩ := hW.o5 hk_p0
            replace hr := nnS hr
            obtain ⟨a65, hn65, hr⟩ := hr
            have hk_a65 : kd a65 = 11 := hT.1 105 _ _ hn65
            refine va_get (D := (dC, dI)) (ci := 5) (v := .ref (ad a65)) (C := RX5) (T := TX5) (N := 11) hx hb hts inX5 hown hK hP i18 hi18 rfl 5 (by decide) (hts (.fieldLink RX4 114 "SpellTurner$Reform" "becomes" "LSpellTurner$WordRow;") ic_419) (fun _ h9 => h9) (congrArg (fun o => some (va_re ad o)) hn65) dX4_readList_65 ?_
            refine lv_aload_n hx hb dX4_readList_68 rfl (lv_at hl 0 rfl) ?_
            obtain ⟨i19, hi19⟩ := hW.o4 hk_this
            replace hr := nnS hr
            obtain ⟨a69, hn69, hr⟩ := hr
            have hk_a69 : kd a69 = 100 := hT.1 82 _ _ hn69
            refine va_get (D := (dC, dI)) (ci := 4) (v := .ref (ad a69)) (C := RX4) (T := TX4) (N := 9) hx hb hts inX4 hown hK hP i19 hi19 rfl 2 (by decide) (hts (.fieldLink RX4 18 "SpellTurner$Reader" "text" "[B") ic_352) (fun _ h9 => h9) (congrArg (fun o => some (va_re ad o)) hn69) dX4_readList_69 ?_
            refine lv_aload_n hx hb dX4_readList_72 rfl (lv_at hl 0 rfl) ?_
            obtain ⟨i20, hi20⟩ := hW.o4 hk_this
            refine va_get (D := (dC, dI)) (ci := 4) (v := .int (c58_G87 this)) (C := RX4) (T := TX4) (N := 9) hx hb hts inX4 hown hK hP i20 hi20 rfl 7 (by decide) (hts (.fieldLink RX4 34 "SpellTurner$Reader" "start" "I") ic_349) (fun _ h9 => h9) rfl dX4_readList_73 ?_
            refine lv_aload_n hx hb dX4_readList_76 rfl (lv_at hl 0 rfl) ?_
            obtain ⟨i21, hi21⟩ := hW.o4 hk_this
            refine va_get (D := (dC, dI)) (ci := 4) (v := .int (c58_G88 this)) (C := RX4) (T := TX4) (N := 9) hx hb hts inX4 hown hK hP i21 hi21 rfl 8 (by decide) (hts (.fieldLink RX4 37 "SpellTurner$Reader" "length" "I") ic_351) (fun _ h9 => h9) rfl dX4_readList_77 ?_
            replace hr := b3S hr
            obtain ⟨c80_G203, c80_V0, c80_V1, hc80, hr⟩ := hr
            have hFc := fr_all hD hS hA
            obtain ⟨i22, hi22⟩ := hW.o10 hk_a65
            refine va_callv (va_runV (As := [.ref (ad a69), .int (c58_G87 this), .int (c58_G88 this)]) (rest := []) ⟨hx, hb, hml, hown, hts⟩ (m_X10_add l dC dI kk ad H.size w17 (va_up (va_up (va_up (va_up (va_up (va_up (va_up (va_up (va_up (va_up (va_up (va_up (va_up (va_up (va_up (va_up (va_up (va_up (va_up (va_up (va_up (va_up (va_up (va_up (va_up G 80 c16_G80) 81 c16_G81) 80 c27_G80) 81 c27_G81) 84 c27_G84) 85 c27_G85) 86 c27_G86) 87 c27_G87) 88 c27_G88) 107 c46_G107) 203 c46_G203) 80 c50_G80) 81 c50_G81) 84 c50_G84) 85 c50_G85) 86 c50_G86) 87 c50_G87) 88 c50_G88) 80 c58_G80) 81 c58_G81) 84 c58_G84) 85 c58_G85) 86 c58_G86) 87 c58_G87) 88 c58_G88) P U (va_up (va_up (va_up V 0 c46_V0) 1 c46_V1) 10 c46_V10) X O kd ln cnt a65 a69 (c58_G87 this) (c58_G88 this) hk_a65 hk_a69 hW hT c80_G203 c80_V0 c80_V1 hc80) (cwV 3 hts gc_RX4_X10_add_117 rfl rfl rfl (by decide +kernel) ⟨Nat.le_of_ble_eq_true rfl, Nat.le_of_ble_eq_true rfl⟩) ⟨fun a U g mk q => by obtain ⟨q0, q1, qP, qK, qD⟩ := q; exact ⟨q0, q1, qP, va_K.moved (u := U) (U := U.calling g mk a) (Vm.Alike.refl U.vm) qK, qD⟩, va_recv hK hP (ci := 10) (q0 := i22) rfl hi22, fun U hU hW => ⟨rfl, by rw [hU], by rw [hU]; exact hP, va_K.moved hW.alike hK, hD.weaken (fun _ _ _ _ => trivial)⟩⟩ rfl rfl hl.1 rfl (lv_room (Nat.le_of_ble_eq_true rfl)) dX4_readList_80 ⟨Nat.le_of_ble_eq_true rfl, Nat.le_of_ble_eq_true rfl⟩) hS (fun q _ h => hFc q h) hFc (fun w23 t H1 locs ht hvm hw hB hz1 hk1 hS => ?_)
            obtain ⟨hW, hT⟩ := hw
            obtain ⟨hP1, hK1, hD1⟩ := hB
            rw [ht] at hP1
            obtain ⟨hP, hD⟩ := jn_all (w1 := w23) hFc hP1 hD1
            replace hP : va_P (dC, dI) vwCl w23 H1 := hP
            replace hD : va_D A w23 := hD
            clear hFc hP1 hK1 hD1 hk1 hz1 ht hvm
            generalize H1 = H at hP hS ⊢
            refine lv_aload_n hx hb dX4_readList_83 rfl (lv_at hl 0 rfl) ?_
            replace hr := b8S hr
            obtain ⟨r84z, c84_G80, c84_G81, c84_G84, c84_G85, c84_G86, c84_G87, c84_G88, hc84, hr⟩ := hr
            have hFc := fr_all hD hS hA
            obtain ⟨i24, hi24⟩ := hW.o4 hk_this
            refine va_calli (va_runV (As := []) (rest := []) ⟨hx, hb, hml, hown, hts⟩ (m_X4_takeClose l dC dI kk ad H.size w23 (va_up (va_up (va_up (va_up (va_up (va_up (va_up (va_up (va_up (va_up (va_up (va_up (va_up (va_up (va_up (va_up (va_up (va_up (va_up (va_up (va_up (va_up (va_up (va_up (va_up (va_up G 80 c16_G80) 81 c16_G81) 80 c27_G80) 81 c27_G81) 84 c27_G84) 85 c27_G85) 86 c27_G86) 87 c27_G87) 88 c27_G88) 107 c46_G107) 203 c46_G203) 80 c50_G80) 81 c50_G81) 84 c50_G84) 85 c50_G85) 86 c50_G86) 87 c50_G87) 88 c50_G88) 80 c58_G80) 81 c58_G81) 84 c58_G84) 85 c58_G85) 86 c58_G86) 87 c58_G87) 88 c58_G88) 203 c80_G203) P U (va_up (va_up (va_up (va_up (va_up V 0 c46_V0) 1 c46_V1) 10 c46_V10) 0 c80_V0) 1 c80_V1) X O kd ln cnt this hk_this hW hT r84z c84_G80 c84_G81 c84_G84 c84_G85 c84_G86 c84_G87 c84_G88 hc84) (cwV 0 hts gc_RX4_X4_takeClose_102 rfl rfl rfl (by decide +kernel) ⟨Nat.le_of_ble_eq_true rfl, Nat.le_of_ble_eq_true rfl⟩) ⟨fun a U g mk q => by obtain ⟨q0, q1, qP, qK, qD⟩ := q; exact ⟨q0, q1, qP, va_K.moved (u := U) (U := U.calling g mk a) (Vm.Alike.refl U.vm) qK, qD⟩, va_recv hK hP (ci := 4) (q0 := i24) rfl hi24, fun U hU hW => ⟨rfl, by rw [hU], by rw [hU]; exact hP, va_K.moved hW.alike hK, hD.weaken (fun _ _ _ _ => trivial)⟩⟩ rfl rfl hl.1 rfl (lv_room (Nat.le_of_ble_eq_true rfl)) dX4_readList_84 ⟨Nat.le_of_ble_eq_true rfl, Nat.le_of_ble_eq_true rfl⟩) hS (fun q _ h => hFc q h) hFc (fun r84 w25 t H1 locs ht hvm hw hB hz1 hk1 hS => ?_)
            obtain ⟨hw0, hW, hT⟩ := hw
            replace hw0 : r84 = r84z := hw0
            subst hw0
            obtain ⟨hP1, hK1, hD1⟩ := hB
            rw [ht] at hP1
            obtain ⟨hP, hD⟩ := jn_all (w1 := w25) hFc hP1 hD1
            replace hP : va_P (dC, dI) vwCl w25 H1 := hP
            replace hD : va_D A w25 := hD
            clear hFc hP1 hK1 hD1 hk1 hz1 ht hvm
            generalize H1 = H at hP hS ⊢
            refine lv_pop hx hb dX4_readList_87 rfl ?_
            have eG : (va_up (va_up (va_up (va_up (va_up (va_up (va_up (va_up (va_up (va_up (va_up (va_up (va_up (va_up (va_up (va_up (va_up (va_up (va_up (va_up (va_up (va_up (va_up (va_up (va_up (va_up (va_up (va_up (va_up (va_up (va_up (va_up (va_up G 80 c16_G80) 81 c16_G81) 80 c27_G80) 81 c27_G81) 84 c27_G84) 85 c27_G85) 86 c27_G86) 87 c27_G87) 88 c27_G88) 107 c46_G107) 203 c46_G203) 80 c50_G80) 81 c50_G81) 84 c50_G84) 85 c50_G85) 86 c50_G86) 87 c50_G87) 88 c50_G88) 80 c58_G80) 81 c58_G81) 84 c58_G84) 85 c58_G85) 86 c58_G86) 87 c58_G87) 88 c58_G88) 203 c80_G203) 80 c84_G80) 81 c84_G81) 84 c84_G84) 85 c84_G85) 86 c84_G86) 87 c84_G87) 88 c84_G88) = (va_up (va_up (va_up (va_up (va_up (va_up (va_up (va_up (va_up G 80 c84_G80) 81 c84_G81) 84 c84_G84) 85 c84_G85) 86 c84_G86) 87 c84_G87) 88 c84_G88) 107 c46_G107) 203 c80_G203) := by
              funext k
              by_cases h80 : k = 80
              · subst h80; rfl
              by_cases h81 : k = 81
              · subst h81; rfl
              by_cases h84 : k = 84
              · subst h84; rfl
              by_cases h85 : k = 85
              · subst h85; rfl
              by_cases h86 : k = 86
              · subst h86; rfl
              by_cases h87 : k = 87
              · subst h87; rfl
              by_cases h88 : k = 88
              · subst h88; rfl
              by_cases h107 : k = 107
              · subst h107; rfl
              by_cases h203 : k = 203
              · subst h203; rfl
              · simp only [va_up, h80, h81, h84, h85, h86, h87, h88, h107, h203, if_false]
            rw [eG] at hW
            clear eG
            have eV : (va_up (va_up (va_up (va_up (va_up V 0 c46_V0) 1 c46_V1) 10 c46_V10) 0 c80_V0) 1 c80_V1) = (va_up (va_up (va_up V 0 c80_V0) 1 c80_V1) 10 c46_V10) := by
              funext k
              by_cases h0 : k = 0
              · subst h0; rfl
              by_cases h1 : k = 1
              · subst h1; rfl
              by_cases h10 : k = 10
              · subst h10; rfl
              · simp only [va_up, h0, h1, h10, if_false]
            rw [eV] at hW
            clear eV
            exact Jj88 c84_G80 c84_G81 c84_G84 c84_G85 c84_G86 c84_G87 c84_G88 c46_G107 c80_G203 c80_V0 c80_V1 c46_V10 w25 H _ ls hr hW hT hP hD hS (lv_sub hl [] rfl)
  refine lv_if_ne (tgt := 15) hx hb dX4_readList_8 (by decide) (fun c8 => ?_) (fun c8 => ?_)
  · replace hr := iteF c8 hr
    refine lv_iconst (v := 0) hx hb dX4_readList_15 (by decide +kernel) ?_
    exact Jj16 0 w3 H _ ls hr hW hT hP hD hS (lv_sub hl [0, 1] rfl)
  · replace hr := iteT c8 hr
    refine lv_iconst (v := 1) hx hb dX4_readList_11 (by decide +kernel) ?_
    refine lv_goto (tgt := 16) hx hb dX4_readList_12 (by decide) ?_
    exact Jj16 1 w3 H _ ls hr hW hT hP hD hS (lv_sub hl [0, 1] rfl)
set_option maxHeartbeats 4000000 in
set_option maxRecDepth 100000 in
theorem m_X4_readList (l : Launch) (dC : Nat → ClassId) (dI : Nat → Nat → Nat) (adK adV : Nat → Nat) (kk : Nat → ClassId) (ad : Nat → Nat) (sz : Nat) (ws : va_W) (G : Nat → Nat → Int32) (P : Nat → Nat → Option Nat) (U : Nat → Nat → Int64) (V : Nat → Nat → Nat → Int32) (X : Nat → Nat → Nat → Int64) (O : Nat → Nat → Nat → Option Nat) (kd : Nat → Nat) (ln : Nat → Nat) (cnt : Nat) (this : Nat) (p0 : Nat) (hk_this : kd this = 5) (hk_p0 : kd p0 = 6) (hW : LW ws ad kk kd ln G P U V X O) (hT : TYP kd P O (V 0) cnt) (c_G80 : Nat → Int32) (c_G81 : Nat → Int32) (c_G84 : Nat → Int32) (c_G85 : Nat → Int32) (c_G86 : Nat → Int32) (c_G87 : Nat → Int32) (c_G88 : Nat → Int32) (c_G107 : Nat → Int32) (c_G203 : Nat → Int32) (c_V0 : Nat → Nat → Int32) (c_V1 : Nat → Nat → Int32) (c_V10 : Nat → Nat → Int32) (hr : f_X4_readList G P U V X O kd ln cnt this p0 = some (c_G80, c_G81, c_G84, c_G85, c_G86, c_G87, c_G88, c_G107, c_G203, c_V0, c_V1, c_V10)) : Met l yX4_readList vmX4_readList ({ frames := 8, cells := 0, slots := 0, locals := 382 } : Room) (va_Pc [.ref (ad this), .ref (ad p0)] (fun U => U.heap.size = sz ∧ va_P (dC, dI) vwCl ws U.heap ∧ va_K (dC, dI) vwCl (cT kk) U ∧ va_D (fun _ => True) ws ∧ SE adK adV (va_A ws sz) U)) (va_Qv (fun w => LW w ad kk kd ln (va_up (va_up (va_up (va_up (va_up (va_up (va_up (va_up (va_up G 80 c_G80) 81 c_G81) 84 c_G84) 85 c_G85) 86 c_G86) 87 c_G87) 88 c_G88) 107 c_G107) 203 c_G203) P U (va_up (va_up (va_up V 0 c_V0) 1 c_V1) 10 c_V10) X O ∧ TYP kd P O c_V0 cnt) (fun w t => va_P (dC, dI) vwCl w t.heap ∧ va_K (dC, dI) vwCl (cT kk) t ∧ va_D (va_A ws sz) w) (va_A ws sz)) 0 0 (va_A ws sz) := by
  refine Met.ofW (cc := cX4_readList) (maxL := 2) (ret := none) (by decide) rfl ?_
  intro p e s m args below meth c s₁ B hml hv
  obtain ⟨rfl, hsz, hP, hK, hD0, hSE⟩ := hv
  have hx := B.exec
  have hb := B.bytes
  have hrt := B.returns
  have hts := atoms_spec (ws := vmX4_readList) B.pre
  have hown : s.vm.findClass RX4 = some m.cls := findClass_of_methodNamed B.named
  subst hsz
  have hD := hD0.self (sz := s.heap.size)
  generalize hAe : va_A ws s.heap.size = A at hD hSE ⊢
  have hA : ∀ q : Nat, s.heap.size ≤ q → A q := fun q h => by rw [← hAe]; exact Or.inr h
  have hS : va_S A s.heap s.heap [] := va_S.rf
  have hl := lv_entry ([.ref (ad this), .ref (ad p0)]) (n := 2) (Nat.le_of_ble_eq_true rfl)
  rw [lg_entry_eq]
  generalize (lg_sl ([.ref (ad this), .ref (ad p0)]) ++ List.replicate (2 - (lg_sl ([.ref (ad this), .ref (ad p0)])).length) Slot.unset).toArray = ls at hl ⊢
  exact bm_X4_readList this p0 hk_this hk_p0 c_G80 c_G81 c_G84 c_G85 c_G86 c_G87 c_G88 c_G107 c_G203 c_V0 c_V1 c_V10 hr hx hb hml hown hts hA hK hSE hW hT hP hD hS hl (fun pc ls c_G80z c_G81z c_G84z c_G85z c_G86z c_G87z c_G88z c_G107z c_G203z c_V0z c_V1z c_V10z ws H locs he hd hW hT hP hD hS => by cases he; exact W.vret hx hb hrt (fun t ht hW9 => ⟨⟨ws, rfl, ⟨hW, hT⟩, by rw [ht]; exact hP, va_K.moved hW9.alike hK, hD⟩, hS.F ht⟩) hS.2.2 hd)
set_option maxHeartbeats 4000000 in
set_option maxRecDepth 100000 in
theorem bm_J7_fill_53178_106 {p : Program} {l : Launch} {e : Env} {s : State} {m : MethodId} {args : Array Value} {below : List Frame} {meth : Method} {c : Code} {Q : State → Prop} {A : Nat → Prop} {dC : Nat → ClassId} {dI : Nat → Nat → Nat} {kk : Nat → ClassId} {ad : Nat → Nat} {ws : va_W} {G : Nat → Nat → Int32} {P : Nat → Nat → Option Nat} {U : Nat → Nat → Int64} {V : Nat → Nat → Nat → Int32} {X : Nat → Nat → Nat → Int64} {O : Nat → Nat → Nat → Option Nat} {kd : Nat → Nat} {ln : Nat → Nat} {cnt : Nat} {H : Heap} {locs : List Loc} {ls : Array Slot} (p0 : Nat) (p1 : Int32) (hk_p0 : kd p0 = 106) (c_V6 : Nat → Nat → Int32) (hr : f_J7_fill_53178_106 G P U V X O kd ln cnt p0 p1 = some c_V6) (hx : p.tables.exec = Jvm.exec) (hb : c.code = cJ7_fill_53178) (hml : c.maxLocals = 4) (hown : s.vm.findClass RJ7 = some m.cls) (hts : ∀ w ∈ vmJ7_fill_53178, w.before args s = true) (hA : ∀ q : Nat, s.heap.size ≤ q → A q) (hK : va_K (dC, dI) vwCl (cT kk) s) (hW : LW ws ad kk kd ln G P U V X O) (hT : TYP kd P O (V 0) cnt) (hP : va_P (dC, dI) vwCl ws H) (hD : va_D A ws) (hS : va_S A s.heap H locs) (hl : lv_has ls 4 [(0, .ref (ad p0)), (1, .int p1)])
    (K : ∀ (pc : Nat) (ls : Array Slot) (c_V6z : Nat → Nat → Int32) (ws : va_W) (H : Heap) (locs : List Loc), some c_V6z = some c_V6 → decode cJ7_fill_53178 pc = .ok (.return_, 1) → LW ws ad kk kd ln G P U (va_up V 6 c_V6z) X O → TYP kd P O (V 0) cnt → va_P (dC, dI) vwCl ws H → va_D A ws → va_S A s.heap H locs → W p l e ({ frames := 2, cells := 0, slots := 0, locals := 60 } : Room) s m args below meth c H locs 0 0 Q (F0 m pc ls [])) : W p l e ({ frames := 2, cells := 0, slots := 0, locals := 60 } : Room) s m args below meth c H locs 0 0 Q (F0 m 0 ls []) := by
  unfold f_J7_fill_53178_106 at hr
  refine lv_iconst (v := 0) hx hb dJ7_fill_53178_0 (by decide +kernel) ?_
  refine lv_istore_n (lv' := [(2, .int 0), (0, .ref (ad p0)), (1, .int p1)]) hx hb dJ7_fill_53178_1 rfl hl (by decide) rfl (fun ls hl => ?_)
  refine lv_aload_n hx hb dJ7_fill_53178_2 rfl (lv_at hl 1 rfl) ?_
  obtain ⟨i1, hi1⟩ := hW.v6 hk_p0
  refine va_alen (v := (Int32.ofNat (ln p0))) hx hb hK hP i1 1 hi1 rfl rfl dJ7_fill_53178_3 ?_
  refine lv_topi (fun x4 ex4 => ?_)
  replace hr := vlS hr x4 ex4
  clear ex4
  refine lv_istore_n (lv' := [(3, .int x4), (2, .int 0), (0, .ref (ad p0)), (1, .int p1)]) hx hb dJ7_fill_53178_4 rfl hl (by decide) rfl (fun ls hl => ?_)
  have lp5 : ∀ (n5 : Nat), ∀ (y5_2 : Int32) (d5_V6 : Nat → Nat → Int32) (ws : va_W) (H : Heap) (locs : List Loc) (ls : Array Slot), L_J7_fill_53178_106_5 ln p0 p1 x4 n5 y5_2 d5_V6 = some c_V6 → LW ws ad kk kd ln G P U (va_up V 6 d5_V6) X O → TYP kd P O (V 0) cnt → va_P (dC, dI) vwCl ws H → va_D A ws → va_S A s.heap H locs → lv_has ls 4 [(0, .ref (ad p0)), (1, .int p1), (2, .int y5_2), (3, .int x4)] → W p l e ({ frames := 2, cells := 0, slots := 0, locals := 60 } : Room) s m args below meth c H locs 0 0 Q (F0 m 5 ls []) := by
    intro n5
    induction n5 with
    | zero => intro y5_2 d5_V6 ws H locs ls hr hW hT hP hD hS hl; exact nomatch (show none = some c_V6 from hr)
    | succ n5 ih5 =>
      intro y5_2 d5_V6 ws H locs ls hr hW hT hP hD hS hl
      replace hr : B_J7_fill_53178_106_5 ln p0 p1 x4 (L_J7_fill_53178_106_5 ln p0 p1 x4 n5) y5_2 d5_V6 = some c_V6 := hr
      unfold B_J7_fill_53178_106_5 at hr
      refine lv_iload_n hx hb dJ7_fill_53178_5 rfl (lv_at hl 2 rfl) ?_
      refine lv_iload_n hx hb dJ7_fill_53178_6 rfl (lv_at hl 3 rfl) ?_
      refine lv_icmp_ge (tgt := 20) hx hb dJ7_fill_53178_7 (by decide) (fun c7 => ?_) (fun c7 => ?_)
      · replace hr := iteT c7 hr
        exact K 20 ls _ ws H _ hr dJ7_fill_53178_20 hW hT hP hD hS
      · replace hr := iteF c7 hr
        refine lv_aload_n hx hb dJ7_fill_53178_10 rfl (lv_at hl 0 rfl) ?_
        refine lv_iload_n hx hb dJ7_fill_53178_11 rfl (lv_at hl 2 rfl) ?_
        refine lv_iload_n hx hb dJ7_fill_53178_12 rfl (lv_at hl 1 rfl) ?_
        obtain ⟨i2, hi2⟩ := hW.v6 hk_p0
        replace hr := iteS hr
        obtain ⟨hi13, hr⟩ := hr
        refine va_iast (f := (d5_V6 p0)) hx hb hK hP hD hS i2 1 hi2 rfl (inbV hi13) dJ7_fill_53178_13 (fun H locs hP2 hD2 hS => ?_)
        obtain ⟨m13, w3, em13, hP, hD, hW⟩ : ∃ (z : Nat → Nat → Int32) (w : va_W), z = (va_up d5_V6 p0 (upd (d5_V6 p0) (Int32.toNatClampNeg y5_2) p1)) ∧ va_P (dC, dI) vwCl w H ∧ va_D A w ∧ LW w ad kk kd ln G P U (va_up (va_up V 6 d5_V6) 6 z) X O := ⟨_, _, rfl, hP2, hD2, hW.setV hD hi2 (by rw [hk_p0]; decide) 6 (upd (d5_V6 p0) (Int32.toNatClampNeg y5_2) p1) (by rw [hk_p0]; rfl)⟩
        replace hr := vlS hr m13 em13
        clear em13
        refine lv_iinc (v := (y5_2 + 1)) (lv' := [(2, .int (y5_2 + 1)), (0, .ref (ad p0)), (1, .int p1), (3, .int x4)]) hx hb dJ7_fill_53178_14 hl (k := 2) rfl rfl (by decide) rfl (fun ls hl => ?_)
        refine lv_goto (tgt := 5) hx hb dJ7_fill_53178_17 (by decide) ?_
        have eV : (va_up (va_up V 6 d5_V6) 6 m13) = (va_up V 6 m13) := by
          funext k
          by_cases h6 : k = 6
          · subst h6; rfl
          · simp only [va_up, h6, if_false]
        rw [eV] at hW
        clear eV
        exact ih5 (y5_2 + 1) m13 w3 H _ ls hr hW hT hP hD hS (lv_sub hl [1, 2, 0, 3] rfl)
  have eV : V = (va_up V 6 (V 6)) := by
    funext k
    by_cases h6 : k = 6
    · subst h6; rfl
    · simp only [va_up, h6, if_false]
  rw [eV] at hW
  clear eV
  exact lp5 NN 0 (V 6) ws H _ ls hr hW hT hP hD hS (lv_sub hl [2, 3, 1, 0] rfl)
set_option maxHeartbeats 4000000 in
set_option maxRecDepth 100000 in
theorem m_J7_fill_53178_106 (l : Launch) (dC : Nat → ClassId) (dI : Nat → Nat → Nat) (kk : Nat → ClassId) (ad : Nat → Nat) (sz : Nat) (ws : va_W) (G : Nat → Nat → Int32) (P : Nat → Nat → Option Nat) (U : Nat → Nat → Int64) (V : Nat → Nat → Nat → Int32) (X : Nat → Nat → Nat → Int64) (O : Nat → Nat → Nat → Option Nat) (kd : Nat → Nat) (ln : Nat → Nat) (cnt : Nat) (p0 : Nat) (p1 : Int32) (hk_p0 : kd p0 = 106) (hW : LW ws ad kk kd ln G P U V X O) (hT : TYP kd P O (V 0) cnt) (c_V6 : Nat → Nat → Int32) (hr : f_J7_fill_53178_106 G P U V X O kd ln cnt p0 p1 = some c_V6) : Met l yJ7_fill_53178 vmJ7_fill_53178 ({ frames := 2, cells := 0, slots := 0, locals := 60 } : Room) (va_Pc [.ref (ad p0), .int p1] (fun U => U.heap.size = sz ∧ va_P (dC, dI) vwCl ws U.heap ∧ va_K (dC, dI) vwCl (cT kk) U ∧ va_D (fun _ => True) ws)) (va_Qv (fun w => LW w ad kk kd ln G P U (va_up V 6 c_V6) X O ∧ TYP kd P O (V 0) cnt) (fun w t => va_P (dC, dI) vwCl w t.heap ∧ va_K (dC, dI) vwCl (cT kk) t ∧ va_D (va_A ws sz) w) (va_A ws sz)) 0 0 (va_A ws sz) := by
  refine Met.ofW (cc := cJ7_fill_53178) (maxL := 4) (ret := none) (by decide) rfl ?_
  intro p e s m args below meth c s₁ B hml hv
  obtain ⟨rfl, hsz, hP, hK, hD0⟩ := hv
  have hx := B.exec
  have hb := B.bytes
  have hrt := B.returns
  have hts := atoms_spec (ws := vmJ7_fill_53178) B.pre
  have hown : s.vm.findClass RJ7 = some m.cls := findClass_of_methodNamed B.named
  subst hsz
  have hD := hD0.self (sz := s.heap.size)
  generalize hAe : va_A ws s.heap.size = A at hD ⊢
  have hA : ∀ q : Nat, s.heap.size ≤ q → A q := fun q h => by rw [← hAe]; exact Or.inr h
  have hS : va_S A s.heap s.heap [] := va_S.rf
  have hl := lv_entry ([.ref (ad p0), .int p1]) (n := 4) (Nat.le_of_ble_eq_true rfl)
  rw [lg_entry_eq]
  generalize (lg_sl ([.ref (ad p0), .int p1]) ++ List.replicate (4 - (lg_sl ([.ref (ad p0), .int p1])).length) Slot.unset).toArray = ls at hl ⊢
  exact bm_J7_fill_53178_106 p0 p1 hk_p0 c_V6 hr hx hb hml hown hts hA hK hW hT hP hD hS hl (fun pc ls c_V6z ws H locs he hd hW hT hP hD hS => by cases he; exact W.vret hx hb hrt (fun t ht hW9 => ⟨⟨ws, rfl, ⟨hW, hT⟩, by rw [ht]; exact hP, va_K.moved hW9.alike hK, hD⟩, hS.F ht⟩) hS.2.2 hd)
set_option maxHeartbeats 4000000 in
set_option maxRecDepth 100000 in
theorem bm_X6_begin {p : Program} {l : Launch} {e : Env} {s : State} {m : MethodId} {args : Array Value} {below : List Frame} {meth : Method} {c : Code} {Q : State → Prop} {A : Nat → Prop} {dC : Nat → ClassId} {dI : Nat → Nat → Nat} {kk : Nat → ClassId} {ad : Nat → Nat} {ws : va_W} {G : Nat → Nat → Int32} {P : Nat → Nat → Option Nat} {U : Nat → Nat → Int64} {V : Nat → Nat → Nat → Int32} {X : Nat → Nat → Nat → Int64} {O : Nat → Nat → Nat → Option Nat} {kd : Nat → Nat} {ln : Nat → Nat} {cnt : Nat} {H : Heap} {locs : List Loc} {ls : Array Slot} (this : Nat) (hk_this : kd this = 7) (c_G126 : Nat → Int32) (c_G127 : Nat → Int32) (c_G128 : Nat → Int32) (c_V6 : Nat → Nat → Int32) (hr : f_X6_begin G P U V X O kd ln cnt this = some (c_G126, c_G127, c_G128, c_V6)) (hx : p.tables.exec = Jvm.exec) (hb : c.code = cX6_begin) (hml : c.maxLocals = 1) (hown : s.vm.findClass RX6 = some m.cls) (hts : ∀ w ∈ vmX6_begin, w.before args s = true) (hA : ∀ q : Nat, s.heap.size ≤ q → A q) (hK : va_K (dC, dI) vwCl (cT kk) s) (hW : LW ws ad kk kd ln G P U V X O) (hT : TYP kd P O (V 0) cnt) (hP : va_P (dC, dI) vwCl ws H) (hD : va_D A ws) (hS : va_S A s.heap H locs) (hl : lv_has ls 1 [(0, .ref (ad this))])
    (K : ∀ (pc : Nat) (ls : Array Slot) (c_G126z : Nat → Int32) (c_G127z : Nat → Int32) (c_G128z : Nat → Int32) (c_V6z : Nat → Nat → Int32) (ws : va_W) (H : Heap) (locs : List Loc), some (c_G126z, c_G127z, c_G128z, c_V6z) = some (c_G126, c_G127, c_G128, c_V6) → decode cX6_begin pc = .ok (.return_, 1) → LW ws ad kk kd ln (va_up (va_up (va_up G 126 c_G126z) 127 c_G127z) 128 c_G128z) P U (va_up V 6 c_V6z) X O → TYP kd P O (V 0) cnt → va_P (dC, dI) vwCl ws H → va_D A ws → va_S A s.heap H locs → W p l e ({ frames := 3, cells := 0, slots := 0, locals := 83 } : Room) s m args below meth c H locs 0 0 Q (F0 m pc ls [])) : W p l e ({ frames := 3, cells := 0, slots := 0, locals := 83 } : Room) s m args below meth c H locs 0 0 Q (F0 m 0 ls []) := by
  unfold f_X6_begin at hr
  refine lv_aload_n hx hb dX6_begin_0 rfl (lv_at hl 0 rfl) ?_
  obtain ⟨i1, hi1⟩ := hW.o6 hk_this
  replace hr := nnS hr
  obtain ⟨a1, hn1, hr⟩ := hr
  have hk_a1 : kd a1 = 106 := hT.1 123 _ _ hn1
  refine va_get (D := (dC, dI)) (ci := 6) (v := .ref (ad a1)) (C := RX6) (T := TX6) (N := 9) hx hb hts inX6 hown hK hP i1 hi1 rfl 3 (by decide) (hts (.fieldLink RX6 22 "SpellTurner$Scribe" "tally" "[I") ic_421) (fun _ h9 => h9) (congrArg (fun o => some (va_re ad o)) hn1) dX6_begin_1 ?_
  refine lv_iconst (v := 0) hx hb dX6_begin_4 (by decide +kernel) ?_
  replace hr := b1S hr
  obtain ⟨c5_V6, hc5, hr⟩ := hr
  have hFc := fr_all hD hS hA
  refine va_callv (va_runS (As := [.ref (ad a1), .int 0]) (rest := []) ⟨hx, hb, hml, hown, hts⟩ (m_J7_fill_53178_106 l dC dI kk ad H.size ws G P U V X O kd ln cnt a1 0 hk_a1 hW hT c5_V6 hc5) (va_cwS 2 hts gc_RX6_J7_fill_53178_42 rfl rfl rfl (by decide +kernel) ⟨Nat.le_of_ble_eq_true rfl, Nat.le_of_ble_eq_true rfl⟩) ⟨fun a U g mk q => by obtain ⟨q0, q1, qP, qK, qD⟩ := q; exact ⟨q0, q1, qP, va_K.moved (u := U) (U := U.calling g mk a) (Vm.Alike.refl U.vm) qK, qD⟩, fun U hU hW => ⟨rfl, by rw [hU], by rw [hU]; exact hP, va_K.moved hW.alike hK, hD.weaken (fun _ _ _ _ => trivial)⟩⟩ rfl rfl hl.1 rfl (lv_room (Nat.le_of_ble_eq_true rfl)) dX6_begin_5 ⟨Nat.le_of_ble_eq_true rfl, Nat.le_of_ble_eq_true rfl⟩) hS (fun q _ h => hFc q h) hFc (fun w2 t H1 locs ht hvm hw hB hz1 hk1 hS => ?_)
  obtain ⟨hW, hT⟩ := hw
  obtain ⟨hP1, hK1, hD1⟩ := hB
  rw [ht] at hP1
  obtain ⟨hP, hD⟩ := jn_all (w1 := w2) hFc hP1 hD1
  replace hP : va_P (dC, dI) vwCl w2 H1 := hP
  replace hD : va_D A w2 := hD
  clear hFc hP1 hK1 hD1 hk1 hz1 ht hvm
  generalize H1 = H at hP hS ⊢
  refine lv_aload_n hx hb dX6_begin_8 rfl (lv_at hl 0 rfl) ?_
  refine lv_iconst (v := 0) hx hb dX6_begin_9 (by decide +kernel) ?_
  obtain ⟨i3, hi3⟩ := hW.o6 hk_this
  refine va_put (D := (dC, dI)) (ci := 6) (v := .int 0) (ty := .int) (C := RX6) (T := TX6) (N := 9) hx hb hts inX6 tyX6 tyX6_ok nmX6 hown hK hP hD hS i3 hi3 rfl 6 (by decide) (hts (.fieldLink RX6 33 "SpellTurner$Scribe" "size" "I") ic_423) (fun _ h9 => h9) rfl (by decide +kernel) rfl rfl (Nat.le_of_ble_eq_true rfl) dX6_begin_10 (fun H locs hP2 hD2 hS => ?_)
  obtain ⟨m10, w4, em10, hP, hD, hW⟩ : ∃ (z : Nat → Int32) (w : va_W), z = (va_up (G 126) this 0) ∧ va_P (dC, dI) vwCl w H ∧ va_D A w ∧ LW w ad kk kd ln (va_up G 126 z) P U (va_up V 6 c5_V6) X O := ⟨_, _, rfl, hP2, hD2, hW.setG hD hi3 (by rw [hk_this]; decide) 126 0 (by rw [hk_this]; rfl)⟩
  replace hr := vlS hr m10 em10
  clear em10
  refine lv_aload_n hx hb dX6_begin_13 rfl (lv_at hl 0 rfl) ?_
  refine lv_iconst (v := 0) hx hb dX6_begin_14 (by decide +kernel) ?_
  obtain ⟨i5, hi5⟩ := hW.o6 hk_this
  refine va_put (D := (dC, dI)) (ci := 6) (v := .int 0) (ty := .int) (C := RX6) (T := TX6) (N := 9) hx hb hts inX6 tyX6 tyX6_ok nmX6 hown hK hP hD hS i5 hi5 rfl 7 (by decide) (hts (.fieldLink RX6 36 "SpellTurner$Scribe" "copied" "I") ic_424) (fun _ h9 => h9) rfl (by decide +kernel) rfl rfl (Nat.le_of_ble_eq_true rfl) dX6_begin_15 (fun H locs hP2 hD2 hS => ?_)
  obtain ⟨m15, w6, em15, hP, hD, hW⟩ : ∃ (z : Nat → Int32) (w : va_W), z = (va_up (G 127) this 0) ∧ va_P (dC, dI) vwCl w H ∧ va_D A w ∧ LW w ad kk kd ln (va_up (va_up G 126 m10) 127 z) P U (va_up V 6 c5_V6) X O := ⟨_, _, rfl, hP2, hD2, hW.setG hD hi5 (by rw [hk_this]; decide) 127 0 (by rw [hk_this]; rfl)⟩
  replace hr := vlS hr m15 em15
  clear em15
  refine lv_aload_n hx hb dX6_begin_18 rfl (lv_at hl 0 rfl) ?_
  refine lv_iconst (v := 1) hx hb dX6_begin_19 (by decide +kernel) ?_
  obtain ⟨i7, hi7⟩ := hW.o6 hk_this
  refine va_put (D := (dC, dI)) (ci := 6) (v := .int 1) (ty := .boolean) (C := RX6) (T := TX6) (N := 9) hx hb hts inX6 tyX6 tyX6_ok nmX6 hown hK hP hD hS i7 hi7 rfl 8 (by decide) (hts (.fieldLink RX6 39 "SpellTurner$Scribe" "fits" "Z") ic_425) (fun _ h9 => h9) rfl (by decide +kernel) rfl rfl (Nat.le_of_ble_eq_true rfl) dX6_begin_20 (fun H locs hP2 hD2 hS => ?_)
  obtain ⟨m20, w8, em20, hP, hD, hW⟩ : ∃ (z : Nat → Int32) (w : va_W), z = (va_up (G 128) this 1) ∧ va_P (dC, dI) vwCl w H ∧ va_D A w ∧ LW w ad kk kd ln (va_up (va_up (va_up G 126 m10) 127 m15) 128 z) P U (va_up V 6 c5_V6) X O := ⟨_, _, rfl, hP2, hD2, hW.setG hD hi7 (by rw [hk_this]; decide) 128 1 (by rw [hk_this]; rfl)⟩
  replace hr := vlS hr m20 em20
  clear em20
  exact K 23 ls _ _ _ _ w8 H _ hr dX6_begin_23 hW hT hP hD hS
set_option maxHeartbeats 4000000 in
set_option maxRecDepth 100000 in
theorem m_X6_begin (l : Launch) (dC : Nat → ClassId) (dI : Nat → Nat → Nat) (kk : Nat → ClassId) (ad : Nat → Nat) (sz : Nat) (ws : va_W) (G : Nat → Nat → Int32) (P : Nat → Nat → Option Nat) (U : Nat → Nat → Int64) (V : Nat → Nat → Nat → Int32) (X : Nat → Nat → Nat → Int64) (O : Nat → Nat → Nat → Option Nat) (kd : Nat → Nat) (ln : Nat → Nat) (cnt : Nat) (this : Nat) (hk_this : kd this = 7) (hW : LW ws ad kk kd ln G P U V X O) (hT : TYP kd P O (V 0) cnt) (c_G126 : Nat → Int32) (c_G127 : Nat → Int32) (c_G128 : Nat → Int32) (c_V6 : Nat → Nat → Int32) (hr : f_X6_begin G P U V X O kd ln cnt this = some (c_G126, c_G127, c_G128, c_V6)) : Met l yX6_begin vmX6_begin ({ frames := 3, cells := 0, slots := 0, locals := 83 } : Room) (va_Pc [.ref (ad this)] (fun U => U.heap.size = sz ∧ va_P (dC, dI) vwCl ws U.heap ∧ va_K (dC, dI) vwCl (cT kk) U ∧ va_D (fun _ => True) ws)) (va_Qv (fun w => LW w ad kk kd ln (va_up (va_up (va_up G 126 c_G126) 127 c_G127) 128 c_G128) P U (va_up V 6 c_V6) X O ∧ TYP kd P O (V 0) cnt) (fun w t => va_P (dC, dI) vwCl w t.heap ∧ va_K (dC, dI) vwCl (cT kk) t ∧ va_D (va_A ws sz) w) (va_A ws sz)) 0 0 (va_A ws sz) := by
  refine Met.ofW (cc := cX6_begin) (maxL := 1) (ret := none) (by decide) rfl ?_
  intro p e s m args below meth c s₁ B hml hv
  obtain ⟨rfl, hsz, hP, hK, hD0⟩ := hv
  have hx := B.exec
  have hb := B.bytes
  have hrt := B.returns
  have hts := atoms_spec (ws := vmX6_begin) B.pre
  have hown : s.vm.findClass RX6 = some m.cls := findClass_of_methodNamed B.named
  subst hsz
  have hD := hD0.self (sz := s.heap.size)
  generalize hAe : va_A ws s.heap.size = A at hD ⊢
  have hA : ∀ q : Nat, s.heap.size ≤ q → A q := fun q h => by rw [← hAe]; exact Or.inr h
  have hS : va_S A s.heap s.heap [] := va_S.rf
  have hl := lv_entry ([.ref (ad this)]) (n := 1) (Nat.le_of_ble_eq_true rfl)
  rw [lg_entry_eq]
  generalize (lg_sl ([.ref (ad this)]) ++ List.replicate (1 - (lg_sl ([.ref (ad this)])).length) Slot.unset).toArray = ls at hl ⊢
  exact bm_X6_begin this hk_this c_G126 c_G127 c_G128 c_V6 hr hx hb hml hown hts hA hK hW hT hP hD hS hl (fun pc ls c_G126z c_G127z c_G128z c_V6z ws H locs he hd hW hT hP hD hS => by cases he; exact W.vret hx hb hrt (fun t ht hW9 => ⟨⟨ws, rfl, ⟨hW, hT⟩, by rw [ht]; exact hP, va_K.moved hW9.alike hK, hD⟩, hS.F ht⟩) hS.2.2 hd)
set_option maxHeartbeats 4000000 in
set_option maxRecDepth 100000 in
theorem bm_X6_leaveName {p : Program} {l : Launch} {e : Env} {s : State} {m : MethodId} {args : Array Value} {below : List Frame} {meth : Method} {c : Code} {Q : State → Prop} {A : Nat → Prop} {dC : Nat → ClassId} {dI : Nat → Nat → Nat} {kk : Nat → ClassId} {ad : Nat → Nat} {ws : va_W} {G : Nat → Nat → Int32} {P : Nat → Nat → Option Nat} {U : Nat → Nat → Int64} {V : Nat → Nat → Nat → Int32} {X : Nat → Nat → Nat → Int64} {O : Nat → Nat → Nat → Option Nat} {kd : Nat → Nat} {ln : Nat → Nat} {cnt : Nat} {H : Heap} {locs : List Loc} {ls : Array Slot} (this : Nat) (hk_this : kd this = 7) (c_V6 : Nat → Nat → Int32) (hr : f_X6_leaveName G P U V X O kd ln cnt this = some c_V6) (hx : p.tables.exec = Jvm.exec) (hb : c.code = cX6_leaveName) (hml : c.maxLocals = 1) (hown : s.vm.findClass RX6 = some m.cls) (hts : ∀ w ∈ vmX6_leaveName, w.before args s = true) (hA : ∀ q : Nat, s.heap.size ≤ q → A q) (hK : va_K (dC, dI) vwCl (cT kk) s) (hW : LW ws ad kk kd ln G P U V X O) (hT : TYP kd P O (V 0) cnt) (hP : va_P (dC, dI) vwCl ws H) (hD : va_D A ws) (hS : va_S A s.heap H locs) (hl : lv_has ls 1 [(0, .ref (ad this))])
    (K : ∀ (pc : Nat) (ls : Array Slot) (c_V6z : Nat → Nat → Int32) (ws : va_W) (H : Heap) (locs : List Loc), some c_V6z = some c_V6 → decode cX6_leaveName pc = .ok (.return_, 1) → LW ws ad kk kd ln G P U (va_up V 6 c_V6z) X O → TYP kd P O (V 0) cnt → va_P (dC, dI) vwCl ws H → va_D A ws → va_S A s.heap H locs → W p l e ({ frames := 2, cells := 0, slots := 0, locals := 60 } : Room) s m args below meth c H locs 0 0 Q (F0 m pc ls [])) : W p l e ({ frames := 2, cells := 0, slots := 0, locals := 60 } : Room) s m args below meth c H locs 0 0 Q (F0 m 0 ls []) := by
  unfold f_X6_leaveName at hr
  refine lv_aload_n hx hb dX6_leaveName_0 rfl (lv_at hl 0 rfl) ?_
  obtain ⟨i1, hi1⟩ := hW.o6 hk_this
  replace hr := nnS hr
  obtain ⟨a1, hn1, hr⟩ := hr
  have hk_a1 : kd a1 = 106 := hT.1 123 _ _ hn1
  refine va_get (D := (dC, dI)) (ci := 6) (v := .ref (ad a1)) (C := RX6) (T := TX6) (N := 9) hx hb hts inX6 hown hK hP i1 hi1 rfl 3 (by decide) (hts (.fieldLink RX6 22 "SpellTurner$Scribe" "tally" "[I") ic_421) (fun _ h9 => h9) (congrArg (fun o => some (va_re ad o)) hn1) dX6_leaveName_1 ?_
  refine lv_iconst (v := 4) hx hb dX6_leaveName_4 (by decide +kernel) ?_
  refine lv_dup2_11 hx hb dX6_leaveName_5 rfl rfl ?_
  obtain ⟨i2, hi2⟩ := hW.v6 hk_a1
  replace hr := iteS hr
  obtain ⟨hi6, hr⟩ := hr
  refine va_iald (f := ((V 6) a1)) hx hb hK hP i2 1 hi2 rfl (inbV hi6) dX6_leaveName_6 ?_
  refine lv_iconst (v := 1) hx hb dX6_leaveName_7 (by decide +kernel) ?_
  refine lv_iadd hx hb dX6_leaveName_8 ?_
  obtain ⟨i3, hi3⟩ := hW.v6 hk_a1
  replace hr := iteS hr
  obtain ⟨hi9, hr⟩ := hr
  refine va_iast (f := ((V 6) a1)) hx hb hK hP hD hS i3 1 hi3 rfl (inbV hi9) dX6_leaveName_9 (fun H locs hP2 hD2 hS => ?_)
  obtain ⟨m9, w4, em9, hP, hD, hW⟩ : ∃ (z : Nat → Nat → Int32) (w : va_W), z = (va_up (V 6) a1 (upd ((V 6) a1) (Int32.toNatClampNeg 4) ((((V 6) a1) (Int32.toNatClampNeg 4)) + 1))) ∧ va_P (dC, dI) vwCl w H ∧ va_D A w ∧ LW w ad kk kd ln G P U (va_up V 6 z) X O := ⟨_, _, rfl, hP2, hD2, hW.setV hD hi3 (by rw [hk_a1]; decide) 6 (upd ((V 6) a1) (Int32.toNatClampNeg 4) ((((V 6) a1) (Int32.toNatClampNeg 4)) + 1)) (by rw [hk_a1]; rfl)⟩
  replace hr := vlS hr m9 em9
  clear em9
  exact K 10 ls _ w4 H _ hr dX6_leaveName_10 hW hT hP hD hS
set_option maxHeartbeats 4000000 in
set_option maxRecDepth 100000 in
theorem m_X6_leaveName (l : Launch) (dC : Nat → ClassId) (dI : Nat → Nat → Nat) (kk : Nat → ClassId) (ad : Nat → Nat) (sz : Nat) (ws : va_W) (G : Nat → Nat → Int32) (P : Nat → Nat → Option Nat) (U : Nat → Nat → Int64) (V : Nat → Nat → Nat → Int32) (X : Nat → Nat → Nat → Int64) (O : Nat → Nat → Nat → Option Nat) (kd : Nat → Nat) (ln : Nat → Nat) (cnt : Nat) (this : Nat) (hk_this : kd this = 7) (hW : LW ws ad kk kd ln G P U V X O) (hT : TYP kd P O (V 0) cnt) (c_V6 : Nat → Nat → Int32) (hr : f_X6_leaveName G P U V X O kd ln cnt this = some c_V6) : Met l yX6_leaveName vmX6_leaveName ({ frames := 2, cells := 0, slots := 0, locals := 60 } : Room) (va_Pc [.ref (ad this)] (fun U => U.heap.size = sz ∧ va_P (dC, dI) vwCl ws U.heap ∧ va_K (dC, dI) vwCl (cT kk) U ∧ va_D (fun _ => True) ws)) (va_Qv (fun w => LW w ad kk kd ln G P U (va_up V 6 c_V6) X O ∧ TYP kd P O (V 0) cnt) (fun w t => va_P (dC, dI) vwCl w t.heap ∧ va_K (dC, dI) vwCl (cT kk) t ∧ va_D (va_A ws sz) w) (va_A ws sz)) 0 0 (va_A ws sz) := by
  refine Met.ofW (cc := cX6_leaveName) (maxL := 1) (ret := none) (by decide) rfl ?_
  intro p e s m args below meth c s₁ B hml hv
  obtain ⟨rfl, hsz, hP, hK, hD0⟩ := hv
  have hx := B.exec
  have hb := B.bytes
  have hrt := B.returns
  have hts := atoms_spec (ws := vmX6_leaveName) B.pre
  have hown : s.vm.findClass RX6 = some m.cls := findClass_of_methodNamed B.named
  subst hsz
  have hD := hD0.self (sz := s.heap.size)
  generalize hAe : va_A ws s.heap.size = A at hD ⊢
  have hA : ∀ q : Nat, s.heap.size ≤ q → A q := fun q h => by rw [← hAe]; exact Or.inr h
  have hS : va_S A s.heap s.heap [] := va_S.rf
  have hl := lv_entry ([.ref (ad this)]) (n := 1) (Nat.le_of_ble_eq_true rfl)
  rw [lg_entry_eq]
  generalize (lg_sl ([.ref (ad this)]) ++ List.replicate (1 - (lg_sl ([.ref (ad this)])).length) Slot.unset).toArray = ls at hl ⊢
  exact bm_X6_leaveName this hk_this c_V6 hr hx hb hml hown hts hA hK hW hT hP hD hS hl (fun pc ls c_V6z ws H locs he hd hW hT hP hD hS => by cases he; exact W.vret hx hb hrt (fun t ht hW9 => ⟨⟨ws, rfl, ⟨hW, hT⟩, by rw [ht]; exact hP, va_K.moved hW9.alike hK, hD⟩, hS.F ht⟩) hS.2.2 hd)
set_option maxHeartbeats 4000000 in
set_option maxRecDepth 100000 in
theorem bm_X6_leaveLost {p : Program} {l : Launch} {e : Env} {s : State} {m : MethodId} {args : Array Value} {below : List Frame} {meth : Method} {c : Code} {Q : State → Prop} {A : Nat → Prop} {dC : Nat → ClassId} {dI : Nat → Nat → Nat} {kk : Nat → ClassId} {ad : Nat → Nat} {ws : va_W} {G : Nat → Nat → Int32} {P : Nat → Nat → Option Nat} {U : Nat → Nat → Int64} {V : Nat → Nat → Nat → Int32} {X : Nat → Nat → Nat → Int64} {O : Nat → Nat → Nat → Option Nat} {kd : Nat → Nat} {ln : Nat → Nat} {cnt : Nat} {H : Heap} {locs : List Loc} {ls : Array Slot} (this : Nat) (hk_this : kd this = 7) (c_V6 : Nat → Nat → Int32) (hr : f_X6_leaveLost G P U V X O kd ln cnt this = some c_V6) (hx : p.tables.exec = Jvm.exec) (hb : c.code = cX6_leaveLost) (hml : c.maxLocals = 1) (hown : s.vm.findClass RX6 = some m.cls) (hts : ∀ w ∈ vmX6_leaveLost, w.before args s = true) (hA : ∀ q : Nat, s.heap.size ≤ q → A q) (hK : va_K (dC, dI) vwCl (cT kk) s) (hW : LW ws ad kk kd ln G P U V X O) (hT : TYP kd P O (V 0) cnt) (hP : va_P (dC, dI) vwCl ws H) (hD : va_D A ws) (hS : va_S A s.heap H locs) (hl : lv_has ls 1 [(0, .ref (ad this))])
    (K : ∀ (pc : Nat) (ls : Array Slot) (c_V6z : Nat → Nat → Int32) (ws : va_W) (H : Heap) (locs : List Loc), some c_V6z = some c_V6 → decode cX6_leaveLost pc = .ok (.return_, 1) → LW ws ad kk kd ln G P U (va_up V 6 c_V6z) X O → TYP kd P O (V 0) cnt → va_P (dC, dI) vwCl ws H → va_D A ws → va_S A s.heap H locs → W p l e ({ frames := 2, cells := 0, slots := 0, locals := 60 } : Room) s m args below meth c H locs 0 0 Q (F0 m pc ls [])) : W p l e ({ frames := 2, cells := 0, slots := 0, locals := 60 } : Room) s m args below meth c H locs 0 0 Q (F0 m 0 ls []) := by
  unfold f_X6_leaveLost at hr
  refine lv_aload_n hx hb dX6_leaveLost_0 rfl (lv_at hl 0 rfl) ?_
  obtain ⟨i1, hi1⟩ := hW.o6 hk_this
  replace hr := nnS hr
  obtain ⟨a1, hn1, hr⟩ := hr
  have hk_a1 : kd a1 = 106 := hT.1 123 _ _ hn1
  refine va_get (D := (dC, dI)) (ci := 6) (v := .ref (ad a1)) (C := RX6) (T := TX6) (N := 9) hx hb hts inX6 hown hK hP i1 hi1 rfl 3 (by decide) (hts (.fieldLink RX6 22 "SpellTurner$Scribe" "tally" "[I") ic_421) (fun _ h9 => h9) (congrArg (fun o => some (va_re ad o)) hn1) dX6_leaveLost_1 ?_
  refine lv_iconst (v := 0) hx hb dX6_leaveLost_4 (by decide +kernel) ?_
  refine lv_dup2_11 hx hb dX6_leaveLost_5 rfl rfl ?_
  obtain ⟨i2, hi2⟩ := hW.v6 hk_a1
  replace hr := iteS hr
  obtain ⟨hi6, hr⟩ := hr
  refine va_iald (f := ((V 6) a1)) hx hb hK hP i2 1 hi2 rfl (inbV hi6) dX6_leaveLost_6 ?_
  refine lv_iconst (v := 1) hx hb dX6_leaveLost_7 (by decide +kernel) ?_
  refine lv_iadd hx hb dX6_leaveLost_8 ?_
  obtain ⟨i3, hi3⟩ := hW.v6 hk_a1
  replace hr := iteS hr
  obtain ⟨hi9, hr⟩ := hr
  refine va_iast (f := ((V 6) a1)) hx hb hK hP hD hS i3 1 hi3 rfl (inbV hi9) dX6_leaveLost_9 (fun H locs hP2 hD2 hS => ?_)
  obtain ⟨m9, w4, em9, hP, hD, hW⟩ : ∃ (z : Nat → Nat → Int32) (w : va_W), z = (va_up (V 6) a1 (upd ((V 6) a1) (Int32.toNatClampNeg 0) ((((V 6) a1) (Int32.toNatClampNeg 0)) + 1))) ∧ va_P (dC, dI) vwCl w H ∧ va_D A w ∧ LW w ad kk kd ln G P U (va_up V 6 z) X O := ⟨_, _, rfl, hP2, hD2, hW.setV hD hi3 (by rw [hk_a1]; decide) 6 (upd ((V 6) a1) (Int32.toNatClampNeg 0) ((((V 6) a1) (Int32.toNatClampNeg 0)) + 1)) (by rw [hk_a1]; rfl)⟩
  replace hr := vlS hr m9 em9
  clear em9
  refine lv_aload_n hx hb dX6_leaveLost_10 rfl (lv_at hl 0 rfl) ?_
  obtain ⟨i5, hi5⟩ := hW.o6 hk_this
  replace hr := nnS hr
  obtain ⟨a11, hn11, hr⟩ := hr
  have hk_a11 : kd a11 = 106 := hT.1 123 _ _ hn11
  refine va_get (D := (dC, dI)) (ci := 6) (v := .ref (ad a11)) (C := RX6) (T := TX6) (N := 9) hx hb hts inX6 hown hK hP i5 hi5 rfl 3 (by decide) (hts (.fieldLink RX6 22 "SpellTurner$Scribe" "tally" "[I") ic_421) (fun _ h9 => h9) (congrArg (fun o => some (va_re ad o)) hn11) dX6_leaveLost_11 ?_
  refine lv_iconst (v := 3) hx hb dX6_leaveLost_14 (by decide +kernel) ?_
  refine lv_dup2_11 hx hb dX6_leaveLost_15 rfl rfl ?_
  obtain ⟨i6, hi6⟩ := hW.v6 hk_a11
  replace hr := iteS hr
  obtain ⟨hi16, hr⟩ := hr
  refine va_iald (f := (m9 a11)) hx hb hK hP i6 1 hi6 rfl (inbV hi16) dX6_leaveLost_16 ?_
  refine lv_iconst (v := 1) hx hb dX6_leaveLost_17 (by decide +kernel) ?_
  refine lv_iadd hx hb dX6_leaveLost_18 ?_
  obtain ⟨i7, hi7⟩ := hW.v6 hk_a11
  replace hr := iteS hr
  obtain ⟨hi19, hr⟩ := hr
  refine va_iast (f := (m9 a11)) hx hb hK hP hD hS i7 1 hi7 rfl (inbV hi19) dX6_leaveLost_19 (fun H locs hP2 hD2 hS => ?_)
  obtain ⟨m19, w8, em19, hP, hD, hW⟩ : ∃ (z : Nat → Nat → Int32) (w : va_W), z = (va_up m9 a11 (upd (m9 a11) (Int32.toNatClampNeg 3) (((m9 a11) (Int32.toNatClampNeg 3)) + 1))) ∧ va_P (dC, dI) vwCl w H ∧ va_D A w ∧ LW w ad kk kd ln G P U (va_up (va_up V 6 m9) 6 z) X O := ⟨_, _, rfl, hP2, hD2, hW.setV hD hi7 (by rw [hk_a11]; decide) 6 (upd (m9 a11) (Int32.toNatClampNeg 3) (((m9 a11) (Int32.toNatClampNeg 3)) + 1)) (by rw [hk_a11]; rfl)⟩
  replace hr := vlS hr m19 em19
  clear em19
  have eV : (va_up (va_up V 6 m9) 6 m19) = (va_up V 6 m19) := by
    funext k
    by_cases h6 : k = 6
    · subst h6; rfl
    · simp only [va_up, h6, if_false]
  rw [eV] at hW
  clear eV
  exact K 20 ls _ w8 H _ hr dX6_leaveLost_20 hW hT hP hD hS
set_option maxHeartbeats 4000000 in
set_option maxRecDepth 100000 in
theorem m_X6_leaveLost (l : Launch) (dC : Nat → ClassId) (dI : Nat → Nat → Nat) (kk : Nat → ClassId) (ad : Nat → Nat) (sz : Nat) (ws : va_W) (G : Nat → Nat → Int32) (P : Nat → Nat → Option Nat) (U : Nat → Nat → Int64) (V : Nat → Nat → Nat → Int32) (X : Nat → Nat → Nat → Int64) (O : Nat → Nat → Nat → Option Nat) (kd : Nat → Nat) (ln : Nat → Nat) (cnt : Nat) (this : Nat) (hk_this : kd this = 7) (hW : LW ws ad kk kd ln G P U V X O) (hT : TYP kd P O (V 0) cnt) (c_V6 : Nat → Nat → Int32) (hr : f_X6_leaveLost G P U V X O kd ln cnt this = some c_V6) : Met l yX6_leaveLost vmX6_leaveLost ({ frames := 2, cells := 0, slots := 0, locals := 60 } : Room) (va_Pc [.ref (ad this)] (fun U => U.heap.size = sz ∧ va_P (dC, dI) vwCl ws U.heap ∧ va_K (dC, dI) vwCl (cT kk) U ∧ va_D (fun _ => True) ws)) (va_Qv (fun w => LW w ad kk kd ln G P U (va_up V 6 c_V6) X O ∧ TYP kd P O (V 0) cnt) (fun w t => va_P (dC, dI) vwCl w t.heap ∧ va_K (dC, dI) vwCl (cT kk) t ∧ va_D (va_A ws sz) w) (va_A ws sz)) 0 0 (va_A ws sz) := by
  refine Met.ofW (cc := cX6_leaveLost) (maxL := 1) (ret := none) (by decide) rfl ?_
  intro p e s m args below meth c s₁ B hml hv
  obtain ⟨rfl, hsz, hP, hK, hD0⟩ := hv
  have hx := B.exec
  have hb := B.bytes
  have hrt := B.returns
  have hts := atoms_spec (ws := vmX6_leaveLost) B.pre
  have hown : s.vm.findClass RX6 = some m.cls := findClass_of_methodNamed B.named
  subst hsz
  have hD := hD0.self (sz := s.heap.size)
  generalize hAe : va_A ws s.heap.size = A at hD ⊢
  have hA : ∀ q : Nat, s.heap.size ≤ q → A q := fun q h => by rw [← hAe]; exact Or.inr h
  have hS : va_S A s.heap s.heap [] := va_S.rf
  have hl := lv_entry ([.ref (ad this)]) (n := 1) (Nat.le_of_ble_eq_true rfl)
  rw [lg_entry_eq]
  generalize (lg_sl ([.ref (ad this)]) ++ List.replicate (1 - (lg_sl ([.ref (ad this)])).length) Slot.unset).toArray = ls at hl ⊢
  exact bm_X6_leaveLost this hk_this c_V6 hr hx hb hml hown hts hA hK hW hT hP hD hS hl (fun pc ls c_V6z ws H locs he hd hW hT hP hD hS => by cases he; exact W.vret hx hb hrt (fun t ht hW9 => ⟨⟨ws, rfl, ⟨hW, hT⟩, by rw [ht]; exact hP, va_K.moved hW9.alike hK, hD⟩, hS.F ht⟩) hS.2.2 hd)
set_option maxHeartbeats 4000000 in
set_option maxRecDepth 100000 in
theorem bm_X6_append {p : Program} {l : Launch} {e : Env} {s : State} {m : MethodId} {args : Array Value} {below : List Frame} {meth : Method} {c : Code} {Q : State → Prop} {A : Nat → Prop} {dC : Nat → ClassId} {dI : Nat → Nat → Nat} {kk : Nat → ClassId} {ad : Nat → Nat} {ws : va_W} {G : Nat → Nat → Int32} {P : Nat → Nat → Option Nat} {U : Nat → Nat → Int64} {V : Nat → Nat → Nat → Int32} {X : Nat → Nat → Nat → Int64} {O : Nat → Nat → Nat → Option Nat} {kd : Nat → Nat} {ln : Nat → Nat} {cnt : Nat} {H : Heap} {locs : List Loc} {ls : Array Slot} (this : Nat) (p0 : Nat) (p1 : Int32) (p2 : Int32) (hk_this : kd this = 7) (hk_p0 : kd p0 = 100) (c_G126 : Nat → Int32) (c_G128 : Nat → Int32) (c_V0 : Nat → Nat → Int32) (hr : f_X6_append G P U V X O kd ln cnt this p0 p1 p2 = some (c_G126, c_G128, c_V0)) (hx : p.tables.exec = Jvm.exec) (hb : c.code = cX6_append) (hml : c.maxLocals = 4) (hown : s.vm.findClass RX6 = some m.cls) (hts : ∀ w ∈ vmX6_append, w.before args s = true) (hA : ∀ q : Nat, s.heap.size ≤ q → A q) (hK : va_K (dC, dI) vwCl (cT kk) s) (hW : LW ws ad kk kd ln G P U V X O) (hT : TYP kd P O (V 0) cnt) (hP : va_P (dC, dI) vwCl ws H) (hD : va_D A ws) (hS : va_S A s.heap H locs) (hl : lv_has ls 4 [(0, .ref (ad this)), (1, .ref (ad p0)), (2, .int p1), (3, .int p2)])
    (K : ∀ (pc : Nat) (ls : Array Slot) (c_G126z : Nat → Int32) (c_G128z : Nat → Int32) (c_V0z : Nat → Nat → Int32) (ws : va_W) (H : Heap) (locs : List Loc), some (c_G126z, c_G128z, c_V0z) = some (c_G126, c_G128, c_V0) → decode cX6_append pc = .ok (.return_, 1) → LW ws ad kk kd ln (va_up (va_up G 126 c_G126z) 128 c_G128z) P U (va_up V 0 c_V0z) X O → TYP kd P O c_V0z cnt → va_P (dC, dI) vwCl ws H → va_D A ws → va_S A s.heap H locs → W p l e ({ frames := 3, cells := 0, slots := 0, locals := 120 } : Room) s m args below meth c H locs 0 0 Q (F0 m pc ls [])) : W p l e ({ frames := 3, cells := 0, slots := 0, locals := 120 } : Room) s m args below meth c H locs 0 0 Q (F0 m 0 ls []) := by
  unfold f_X6_append at hr
  refine lv_aload_n hx hb dX6_append_0 rfl (lv_at hl 0 rfl) ?_
  obtain ⟨i1, hi1⟩ := hW.o6 hk_this
  refine va_get (D := (dC, dI)) (ci := 6) (v := .int ((G 128) this)) (C := RX6) (T := TX6) (N := 9) hx hb hts inX6 hown hK hP i1 hi1 rfl 8 (by decide) (hts (.fieldLink RX6 39 "SpellTurner$Scribe" "fits" "Z") ic_425) (fun _ h9 => h9) rfl dX6_append_1 ?_
  replace hr := jnS hr
  obtain ⟨j19, hj19, hr⟩ := hr
  have Jj19 : ∀ (ws : va_W) (H : Heap) (locs : List Loc) (ls : Array Slot), j19 () = some (c_G126, c_G128, c_V0) → LW ws ad kk kd ln G P U V X O → TYP kd P O (V 0) cnt → va_P (dC, dI) vwCl ws H → va_D A ws → va_S A s.heap H locs → lv_has ls 4 [(0, .ref (ad this))] → W p l e ({ frames := 3, cells := 0, slots := 0, locals := 120 } : Room) s m args below meth c H locs 0 0 Q (F0 m 19 ls []) := by
    intro ws H locs ls hr hW hT hP hD hS hl
    rw [hj19] at hr
    refine lv_aload_n hx hb dX6_append_19 rfl (lv_at hl 0 rfl) ?_
    refine lv_iconst (v := 0) hx hb dX6_append_20 (by decide +kernel) ?_
    obtain ⟨i2, hi2⟩ := hW.o6 hk_this
    refine va_put (D := (dC, dI)) (ci := 6) (v := .int 0) (ty := .boolean) (C := RX6) (T := TX6) (N := 9) hx hb hts inX6 tyX6 tyX6_ok nmX6 hown hK hP hD hS i2 hi2 rfl 8 (by decide) (hts (.fieldLink RX6 39 "SpellTurner$Scribe" "fits" "Z") ic_425) (fun _ h9 => h9) rfl (by decide +kernel) rfl rfl (Nat.le_of_ble_eq_true rfl) dX6_append_21 (fun H locs hP2 hD2 hS => ?_)
    obtain ⟨m21, w3, em21, hP, hD, hW⟩ : ∃ (z : Nat → Int32) (w : va_W), z = (va_up (G 128) this 0) ∧ va_P (dC, dI) vwCl w H ∧ va_D A w ∧ LW w ad kk kd ln (va_up G 128 z) P U V X O := ⟨_, _, rfl, hP2, hD2, hW.setG hD hi2 (by rw [hk_this]; decide) 128 0 (by rw [hk_this]; rfl)⟩
    replace hr := vlS hr m21 em21
    clear em21
    have eG : (va_up G 128 m21) = (va_up (va_up G 126 (G 126)) 128 m21) := by
      funext k
      by_cases h126 : k = 126
      · subst h126; rfl
      by_cases h128 : k = 128
      · subst h128; rfl
      · simp only [va_up, h126, h128, if_false]
    rw [eG] at hW
    clear eG
    have eV : V = (va_up V 0 (V 0)) := by
      funext k
      by_cases h0 : k = 0
      · subst h0; rfl
      · simp only [va_up, h0, if_false]
    rw [eV] at hW
    clear eV
    exact K 24 ls _ _ _ w3 H _ hr dX6_append_24 hW hT hP hD hS
  refine lv_if_eq (tgt := 19) hx hb dX6_append_4 (by decide) (fun c4 => ?_) (fun c4 => ?_)
  · replace hr := iteT c4 hr
    exact Jj19 ws H _ ls hr hW hT hP hD hS (lv_sub hl [0] rfl)
  · replace hr := iteF c4 hr
    refine lv_iload_n hx hb dX6_append_7 rfl (lv_at hl 3 rfl) ?_
    refine lv_sipush (v := 2500) hx hb dX6_append_8 (by decide +kernel) ?_
    refine lv_aload_n hx hb dX6_append_11 rfl (lv_at hl 0 rfl) ?_
    obtain ⟨i4, hi4⟩ := hW.o6 hk_this
    refine va_get (D := (dC, dI)) (ci := 6) (v := .int ((G 126) this)) (C := RX6) (T := TX6) (N := 9) hx hb hts inX6 hown hK hP i4 hi4 rfl 6 (by decide) (hts (.fieldLink RX6 33 "SpellTurner$Scribe" "size" "I") ic_423) (fun _ h9 => h9) rfl dX6_append_12 ?_
    refine lv_isub hx hb dX6_append_15 ?_
    refine lv_icmp_le (tgt := 25) hx hb dX6_append_16 (by decide) (fun c16 => ?_) (fun c16 => ?_)
    · replace hr := iteT c16 hr
      refine lv_aload_n hx hb dX6_append_25 rfl (lv_at hl 1 rfl) ?_
      refine lv_iload_n hx hb dX6_append_26 rfl (lv_at hl 2 rfl) ?_
      refine lv_aload_n hx hb dX6_append_27 rfl (lv_at hl 0 rfl) ?_
      obtain ⟨i5, hi5⟩ := hW.o6 hk_this
      replace hr := nnS hr
      obtain ⟨a28, hn28, hr⟩ := hr
      have hk_a28 : kd a28 = 100 := hT.1 121 _ _ hn28
      refine va_get (D := (dC, dI)) (ci := 6) (v := .ref (ad a28)) (C := RX6) (T := TX6) (N := 9) hx hb hts inX6 hown hK hP i5 hi5 rfl 1 (by decide) (hts (.fieldLink RX6 15 "SpellTurner$Scribe" "page" "[B") ic_429) (fun _ h9 => h9) (congrArg (fun o => some (va_re ad o)) hn28) dX6_append_28 ?_
      refine lv_aload_n hx hb dX6_append_31 rfl (lv_at hl 0 rfl) ?_
      obtain ⟨i6, hi6⟩ := hW.o6 hk_this
      refine va_get (D := (dC, dI)) (ci := 6) (v := .int ((G 126) this)) (C := RX6) (T := TX6) (N := 9) hx hb hts inX6 hown hK hP i6 hi6 rfl 6 (by decide) (hts (.fieldLink RX6 33 "SpellTurner$Scribe" "size" "I") ic_423) (fun _ h9 => h9) rfl dX6_append_32 ?_
      refine lv_iload_n hx hb dX6_append_35 rfl (lv_at hl 3 rfl) ?_
      replace hr := iteS hr
      obtain ⟨hi36, hr⟩ := hr
      obtain ⟨i7, hi7⟩ := hW.v0 hk_p0
      obtain ⟨i8, hi8⟩ := hW.v0 hk_a28
      refine va_copyi (f := ((V 0) p0)) (g := ((V 0) a28)) hx hb (by rw [hml]; exact hl.1.symm) hown (hts (.methodLink RX6 81 arraycopyName) ic_430) (hts (.native arraycopyName) ic_16) (hts (.static arraycopyName) ic_17) (hts (.initialized "java/lang/System") ic_18) hK hP hD hS i7 i8 0 0 hi7 hi8 rfl rfl rfl (cpbS hi36).1 (cpbS hi36).2.1 (cpbS hi36).2.2.1 (cpbS hi36).2.2.2.1 (cpbS hi36).2.2.2.2 (fun _ _ => hT.2.2.1 _ _) (Nat.le_of_ble_eq_true rfl) (Nat.le_of_ble_eq_true rfl) dX6_append_36 (fun H locs hP2 hD2 hS => ?_)
      obtain ⟨m36, w9, em36, hP, hD, hW⟩ : ∃ (z : Nat → Nat → Int32) (w : va_W), z = (va_up (V 0) a28 (va_cpy ((V 0) p0) ((V 0) a28) (Int32.toNatClampNeg p1) (Int32.toNatClampNeg ((G 126) this)) (Int32.toNatClampNeg p2))) ∧ va_P (dC, dI) vwCl w H ∧ va_D A w ∧ LW w ad kk kd ln G P U (va_up V 0 z) X O := ⟨_, _, rfl, hP2, hD2, hW.setV hD hi8 (by rw [hk_a28]; decide) 0 (va_cpy ((V 0) p0) ((V 0) a28) (Int32.toNatClampNeg p1) (Int32.toNatClampNeg ((G 126) this)) (Int32.toNatClampNeg p2)) (by rw [hk_a28]; rfl)⟩
      replace hT : TYP kd P O m36 cnt := by rw [em36]; exact hT.setB a28 _ (fit_cpy (hT.2.2.1 p0) (hT.2.2.1 a28) _ _ _)
      replace hr := vlS hr m36 em36
      clear em36
      refine lv_aload_n hx hb dX6_append_39 rfl (lv_at hl 0 rfl) ?_
      refine lv_dup hx hb dX6_append_40 rfl ?_
      obtain ⟨i10, hi10⟩ := hW.o6 hk_this
      refine va_get (D := (dC, dI)) (ci := 6) (v := .int ((G 126) this)) (C := RX6) (T := TX6) (N := 9) hx hb hts inX6 hown hK hP i10 hi10 rfl 6 (by decide) (hts (.fieldLink RX6 33 "SpellTurner$Scribe" "size" "I") ic_423) (fun _ h9 => h9) rfl dX6_append_41 ?_
      refine lv_iload_n hx hb dX6_append_44 rfl (lv_at hl 3 rfl) ?_
      refine lv_iadd hx hb dX6_append_45 ?_
      refine lv_topi (fun x46 ex46 => ?_)
      replace hr := vlS hr x46 ex46
      clear ex46
      obtain ⟨i11, hi11⟩ := hW.o6 hk_this
      refine va_put (D := (dC, dI)) (ci := 6) (v := .int x46) (ty := .int) (C := RX6) (T := TX6) (N := 9) hx hb hts inX6 tyX6 tyX6_ok nmX6 hown hK hP hD hS i11 hi11 rfl 6 (by decide) (hts (.fieldLink RX6 33 "SpellTurner$Scribe" "size" "I") ic_423) (fun _ h9 => h9) rfl (by decide +kernel) rfl rfl (Nat.le_of_ble_eq_true rfl) dX6_append_46 (fun H locs hP2 hD2 hS => ?_)
      obtain ⟨m46, w12, em46, hP, hD, hW⟩ : ∃ (z : Nat → Int32) (w : va_W), z = (va_up (G 126) this x46) ∧ va_P (dC, dI) vwCl w H ∧ va_D A w ∧ LW w ad kk kd ln (va_up G 126 z) P U (va_up V 0 m36) X O := ⟨_, _, rfl, hP2, hD2, hW.setG hD hi11 (by rw [hk_this]; decide) 126 x46 (by rw [hk_this]; rfl)⟩
      replace hr := vlS hr m46 em46
      clear em46
      have eG : (va_up G 126 m46) = (va_up (va_up G 126 m46) 128 (G 128)) := by
        funext k
        by_cases h126 : k = 126
        · subst h126; rfl
        by_cases h128 : k = 128
        · subst h128; rfl
        · simp only [va_up, h126, h128, if_false]
      rw [eG] at hW
      clear eG
      exact K 49 ls _ _ _ w12 H _ hr dX6_append_49 hW hT hP hD hS
    · replace hr := iteF c16 hr
      exact Jj19 ws H _ ls hr hW hT hP hD hS (lv_sub hl [0] rfl)
set_option maxHeartbeats 4000000 in
set_option maxRecDepth 100000 in
theorem m_X6_append (l : Launch) (dC : Nat → ClassId) (dI : Nat → Nat → Nat) (kk : Nat → ClassId) (ad : Nat → Nat) (sz : Nat) (ws : va_W) (G : Nat → Nat → Int32) (P : Nat → Nat → Option Nat) (U : Nat → Nat → Int64) (V : Nat → Nat → Nat → Int32) (X : Nat → Nat → Nat → Int64) (O : Nat → Nat → Nat → Option Nat) (kd : Nat → Nat) (ln : Nat → Nat) (cnt : Nat) (this : Nat) (p0 : Nat) (p1 : Int32) (p2 : Int32) (hk_this : kd this = 7) (hk_p0 : kd p0 = 100) (hW : LW ws ad kk kd ln G P U V X O) (hT : TYP kd P O (V 0) cnt) (c_G126 : Nat → Int32) (c_G128 : Nat → Int32) (c_V0 : Nat → Nat → Int32) (hr : f_X6_append G P U V X O kd ln cnt this p0 p1 p2 = some (c_G126, c_G128, c_V0)) : Met l yX6_append vmX6_append ({ frames := 3, cells := 0, slots := 0, locals := 120 } : Room) (va_Pc [.ref (ad this), .ref (ad p0), .int p1, .int p2] (fun U => U.heap.size = sz ∧ va_P (dC, dI) vwCl ws U.heap ∧ va_K (dC, dI) vwCl (cT kk) U ∧ va_D (fun _ => True) ws)) (va_Qv (fun w => LW w ad kk kd ln (va_up (va_up G 126 c_G126) 128 c_G128) P U (va_up V 0 c_V0) X O ∧ TYP kd P O c_V0 cnt) (fun w t => va_P (dC, dI) vwCl w t.heap ∧ va_K (dC, dI) vwCl (cT kk) t ∧ va_D (va_A ws sz) w) (va_A ws sz)) 0 0 (va_A ws sz) := by
  refine Met.ofW (cc := cX6_append) (maxL := 4) (ret := none) (by decide) rfl ?_
  intro p e s m args below meth c s₁ B hml hv
  obtain ⟨rfl, hsz, hP, hK, hD0⟩ := hv
  have hx := B.exec
  have hb := B.bytes
  have hrt := B.returns
  have hts := atoms_spec (ws := vmX6_append) B.pre
  have hown : s.vm.findClass RX6 = some m.cls := findClass_of_methodNamed B.named
  subst hsz
  have hD := hD0.self (sz := s.heap.size)
  generalize hAe : va_A ws s.heap.size = A at hD ⊢
  have hA : ∀ q : Nat, s.heap.size ≤ q → A q := fun q h => by rw [← hAe]; exact Or.inr h
  have hS : va_S A s.heap s.heap [] := va_S.rf
  have hl := lv_entry ([.ref (ad this), .ref (ad p0), .int p1, .int p2]) (n := 4) (Nat.le_of_ble_eq_true rfl)
  rw [lg_entry_eq]
  generalize (lg_sl ([.ref (ad this), .ref (ad p0), .int p1, .int p2]) ++ List.replicate (4 - (lg_sl ([.ref (ad this), .ref (ad p0), .int p1, .int p2])).length) Slot.unset).toArray = ls at hl ⊢
  exact bm_X6_append this p0 p1 p2 hk_this hk_p0 c_G126 c_G128 c_V0 hr hx hb hml hown hts hA hK hW hT hP hD hS hl (fun pc ls c_G126z c_G128z c_V0z ws H locs he hd hW hT hP hD hS => by cases he; exact W.vret hx hb hrt (fun t ht hW9 => ⟨⟨ws, rfl, ⟨hW, hT⟩, by rw [ht]; exact hP, va_K.moved hW9.alike hK, hD⟩, hS.F ht⟩) hS.2.2 hd)
set_option maxHeartbeats 4000000 in
set_option maxRecDepth 100000 in
theorem bm_X6_put {p : Program} {l : Launch} {e : Env} {s : State} {m : MethodId} {args : Array Value} {below : List Frame} {meth : Method} {c : Code} {Q : State → Prop} {A : Nat → Prop} {dC : Nat → ClassId} {dI : Nat → Nat → Nat} {kk : Nat → ClassId} {ad : Nat → Nat} {ws : va_W} {G : Nat → Nat → Int32} {P : Nat → Nat → Option Nat} {U : Nat → Nat → Int64} {V : Nat → Nat → Nat → Int32} {X : Nat → Nat → Nat → Int64} {O : Nat → Nat → Nat → Option Nat} {kd : Nat → Nat} {ln : Nat → Nat} {cnt : Nat} {H : Heap} {locs : List Loc} {ls : Array Slot} (this : Nat) (p0 : Nat) (p1 : Nat) (hk_this : kd this = 7) (hk_p0 : kd p0 = 9) (hk_p1 : kd p1 = 11) (c_G126 : Nat → Int32) (c_G127 : Nat → Int32) (c_G128 : Nat → Int32) (c_V0 : Nat → Nat → Int32) (c_V6 : Nat → Nat → Int32) (hr : f_X6_put G P U V X O kd ln cnt this p0 p1 = some (c_G126, c_G127, c_G128, c_V0, c_V6)) (hx : p.tables.exec = Jvm.exec) (hb : c.code = cX6_put) (hml : c.maxLocals = 3) (hown : s.vm.findClass RX6 = some m.cls) (hts : ∀ w ∈ vmX6_put, w.before args s = true) (hA : ∀ q : Nat, s.heap.size ≤ q → A q) (hK : va_K (dC, dI) vwCl (cT kk) s) (hW : LW ws ad kk kd ln G P U V X O) (hT : TYP kd P O (V 0) cnt) (hP : va_P (dC, dI) vwCl ws H) (hD : va_D A ws) (hS : va_S A s.heap H locs) (hl : lv_has ls 3 [(0, .ref (ad this)), (1, .ref (ad p0)), (2, .ref (ad p1))])
    (K : ∀ (pc : Nat) (ls : Array Slot) (c_G126z : Nat → Int32) (c_G127z : Nat → Int32) (c_G128z : Nat → Int32) (c_V0z : Nat → Nat → Int32) (c_V6z : Nat → Nat → Int32) (ws : va_W) (H : Heap) (locs : List Loc), some (c_G126z, c_G127z, c_G128z, c_V0z, c_V6z) = some (c_G126, c_G127, c_G128, c_V0, c_V6) → decode cX6_put pc = .ok (.return_, 1) → LW ws ad kk kd ln (va_up (va_up (va_up G 126 c_G126z) 127 c_G127z) 128 c_G128z) P U (va_up (va_up V 0 c_V0z) 6 c_V6z) X O → TYP kd P O c_V0z cnt → va_P (dC, dI) vwCl ws H → va_D A ws → va_S A s.heap H locs → W p l e ({ frames := 4, cells := 0, slots := 0, locals := 143 } : Room) s m args below meth c H locs 0 0 Q (F0 m pc ls [])) : W p l e ({ frames := 4, cells := 0, slots := 0, locals := 143 } : Room) s m args below meth c H locs 0 0 Q (F0 m 0 ls []) := by
  unfold f_X6_put at hr
  refine lv_aload_n hx hb dX6_put_0 rfl (lv_at hl 2 rfl) ?_
  obtain ⟨i1, hi1⟩ := hW.o10 hk_p1
  refine va_get (D := (dC, dI)) (ci := 10) (v := .int ((G 203) p1)) (C := RX10) (T := TX10) (N := 4) hx hb hts inX10 hown hK hP i1 hi1 rfl 3 (by decide) (hts (.fieldLink RX6 48 "SpellTurner$WordRow" "count" "I") ic_432) (fun _ h9 => h9) rfl dX6_put_1 ?_
  refine lv_if_ne (tgt := 12) hx hb dX6_put_4 (by decide) (fun c4 => ?_) (fun c4 => ?_)
  · replace hr := iteF c4 hr
    refine lv_aload_n hx hb dX6_put_12 rfl (lv_at hl 0 rfl) ?_
    obtain ⟨i2, hi2⟩ := hW.o6 hk_this
    replace hr := nnS hr
    obtain ⟨a13, hn13, hr⟩ := hr
    have hk_a13 : kd a13 = 106 := hT.1 123 _ _ hn13
    refine va_get (D := (dC, dI)) (ci := 6) (v := .ref (ad a13)) (C := RX6) (T := TX6) (N := 9) hx hb hts inX6 hown hK hP i2 hi2 rfl 3 (by decide) (hts (.fieldLink RX6 22 "SpellTurner$Scribe" "tally" "[I") ic_421) (fun _ h9 => h9) (congrArg (fun o => some (va_re ad o)) hn13) dX6_put_13 ?_
    refine lv_iconst (v := 0) hx hb dX6_put_16 (by decide +kernel) ?_
    refine lv_dup2_11 hx hb dX6_put_17 rfl rfl ?_
    obtain ⟨i3, hi3⟩ := hW.v6 hk_a13
    replace hr := iteS hr
    obtain ⟨hi18, hr⟩ := hr
    refine va_iald (f := ((V 6) a13)) hx hb hK hP i3 1 hi3 rfl (inbV hi18) dX6_put_18 ?_
    refine lv_iconst (v := 1) hx hb dX6_put_19 (by decide +kernel) ?_
    refine lv_iadd hx hb dX6_put_20 ?_
    obtain ⟨i4, hi4⟩ := hW.v6 hk_a13
    replace hr := iteS hr
    obtain ⟨hi21, hr⟩ := hr
    refine va_iast (f := ((V 6) a13)) hx hb hK hP hD hS i4 1 hi4 rfl (inbV hi21) dX6_put_21 (fun H locs hP2 hD2 hS => ?_)
    obtain ⟨m21, w5, em21, hP, hD, hW⟩ : ∃ (z : Nat → Nat → Int32) (w : va_W), z = (va_up (V 6) a13 (upd ((V 6) a13) (Int32.toNatClampNeg 0) ((((V 6) a13) (Int32.toNatClampNeg 0)) + 1))) ∧ va_P (dC, dI) vwCl w H ∧ va_D A w ∧ LW w ad kk kd ln G P U (va_up V 6 z) X O := ⟨_, _, rfl, hP2, hD2, hW.setV hD hi4 (by rw [hk_a13]; decide) 6 (upd ((V 6) a13) (Int32.toNatClampNeg 0) ((((V 6) a13) (Int32.toNatClampNeg 0)) + 1)) (by rw [hk_a13]; rfl)⟩
    replace hr := vlS hr m21 em21
    clear em21
    refine lv_aload_n hx hb dX6_put_22 rfl (lv_at hl 2 rfl) ?_
    obtain ⟨i6, hi6⟩ := hW.o10 hk_p1
    refine va_get (D := (dC, dI)) (ci := 10) (v := .int ((G 203) p1)) (C := RX10) (T := TX10) (N := 4) hx hb hts inX10 hown hK hP i6 hi6 rfl 3 (by decide) (hts (.fieldLink RX6 48 "SpellTurner$WordRow" "count" "I") ic_432) (fun _ h9 => h9) rfl dX6_put_23 ?_
    refine lv_iconst (v := 1) hx hb dX6_put_26 (by decide +kernel) ?_
    replace hr := jnS hr
    obtain ⟨j40, hj40, hr⟩ := hr
    have Jj40 : ∀ (c40_V6 : Nat → Nat → Int32) (ws : va_W) (H : Heap) (locs : List Loc) (ls : Array Slot), j40 c40_V6 = some (c_G126, c_G127, c_G128, c_V0, c_V6) → LW ws ad kk kd ln G P U (va_up V 6 c40_V6) X O → TYP kd P O (V 0) cnt → va_P (dC, dI) vwCl ws H → va_D A ws → va_S A s.heap H locs → lv_has ls 3 [(0, .ref (ad this)), (1, .ref (ad p0)), (2, .ref (ad p1))] → W p l e ({ frames := 4, cells := 0, slots := 0, locals := 143 } : Room) s m args below meth c H locs 0 0 Q (F0 m 40 ls []) := by
      intro c40_V6 ws H locs ls hr hW hT hP hD hS hl
      rw [hj40] at hr
      refine lv_aload_n hx hb dX6_put_40 rfl (lv_at hl 2 rfl) ?_
      obtain ⟨i7, hi7⟩ := hW.o10 hk_p1
      replace hr := nnS hr
      obtain ⟨a41, hn41, hr⟩ := hr
      have hk_a41 : kd a41 = 101 := hT.1 202 _ _ hn41
      refine va_get (D := (dC, dI)) (ci := 10) (v := .ref (ad a41)) (C := RX10) (T := TX10) (N := 4) hx hb hts inX10 hown hK hP i7 hi7 rfl 2 (by decide) (hts (.fieldLink RX6 56 "SpellTurner$WordRow" "lengths" "[I") ic_433) (fun _ h9 => h9) (congrArg (fun o => some (va_re ad o)) hn41) dX6_put_41 ?_
      refine lv_iconst (v := 0) hx hb dX6_put_44 (by decide +kernel) ?_
      obtain ⟨i8, hi8⟩ := hW.v1 hk_a41
      replace hr := iteS hr
      obtain ⟨hi45, hr⟩ := hr
      refine va_iald (f := ((V 1) a41)) hx hb hK hP i8 1 hi8 rfl (inbV hi45) dX6_put_45 ?_
      refine lv_aload_n hx hb dX6_put_46 rfl (lv_at hl 1 rfl) ?_
      obtain ⟨i9, hi9⟩ := hW.o8 hk_p0
      refine va_get (D := (dC, dI)) (ci := 8) (v := .int ((G 161) p0)) (C := RX8) (T := TX8) (N := 8) hx hb hts inX8 hown hK hP i9 hi9 rfl 1 (by decide) (hts (.fieldLink RX6 59 "SpellTurner$TextWords" "length" "I") ic_434) (fun _ h9 => h9) rfl dX6_put_47 ?_
      replace hr := jnS hr
      obtain ⟨j70, hj70, hr⟩ := hr
      have Jj70 : ∀ (ws : va_W) (H : Heap) (locs : List Loc) (ls : Array Slot), j70 () = some (c_G126, c_G127, c_G128, c_V0, c_V6) → LW ws ad kk kd ln G P U (va_up V 6 c40_V6) X O → TYP kd P O (V 0) cnt → va_P (dC, dI) vwCl ws H → va_D A ws → va_S A s.heap H locs → lv_has ls 3 [(0, .ref (ad this)), (1, .ref (ad p0)), (2, .ref (ad p1))] → W p l e ({ frames := 4, cells := 0, slots := 0, locals := 143 } : Room) s m args below meth c H locs 0 0 Q (F0 m 70 ls []) := by
        intro ws H locs ls hr hW hT hP hD hS hl
        rw [hj70] at hr
        refine lv_aload_n hx hb dX6_put_70 rfl (lv_at hl 0 rfl) ?_
        obtain ⟨i10, hi10⟩ := hW.o6 hk_this
        replace hr := nnS hr
        obtain ⟨a71, hn71, hr⟩ := hr
        have hk_a71 : kd a71 = 106 := hT.1 123 _ _ hn71
        refine va_get (D := (dC, dI)) (ci := 6) (v := .ref (ad a71)) (C := RX6) (T := TX6) (N := 9) hx hb hts inX6 hown hK hP i10 hi10 rfl 3 (by decide) (hts (.fieldLink RX6 22 "SpellTurner$Scribe" "tally" "[I") ic_421) (fun _ h9 => h9) (congrArg (fun o => some (va_re ad o)) hn71) dX6_put_71 ?_
        refine lv_iconst (v := 1) hx hb dX6_put_74 (by decide +kernel) ?_
        refine lv_dup2_11 hx hb dX6_put_75 rfl rfl ?_
        obtain ⟨i11, hi11⟩ := hW.v6 hk_a71
        replace hr := iteS hr
        obtain ⟨hi76, hr⟩ := hr
        refine va_iald (f := (c40_V6 a71)) hx hb hK hP i11 1 hi11 rfl (inbV hi76) dX6_put_76 ?_
        refine lv_iconst (v := 1) hx hb dX6_put_77 (by decide +kernel) ?_
        refine lv_iadd hx hb dX6_put_78 ?_
        obtain ⟨i12, hi12⟩ := hW.v6 hk_a71
        replace hr := iteS hr
        obtain ⟨hi79, hr⟩ := hr
        refine va_iast (f := (c40_V6 a71)) hx hb hK hP hD hS i12 1 hi12 rfl (inbV hi79) dX6_put_79 (fun H locs hP2 hD2 hS => ?_)
        obtain ⟨m79, w13, em79, hP, hD, hW⟩ : ∃ (z : Nat → Nat → Int32) (w : va_W), z = (va_up c40_V6 a71 (upd (c40_V6 a71) (Int32.toNatClampNeg 1) (((c40_V6 a71) (Int32.toNatClampNeg 1)) + 1))) ∧ va_P (dC, dI) vwCl w H ∧ va_D A w ∧ LW w ad kk kd ln G P U (va_up (va_up V 6 c40_V6) 6 z) X O := ⟨_, _, rfl, hP2, hD2, hW.setV hD hi12 (by rw [hk_a71]; decide) 6 (upd (c40_V6 a71) (Int32.toNatClampNeg 1) (((c40_V6 a71) (Int32.toNatClampNeg 1)) + 1)) (by rw [hk_a71]; rfl)⟩
        replace hr := vlS hr m79 em79
        clear em79
        refine lv_aload_n hx hb dX6_put_80 rfl (lv_at hl 0 rfl) ?_
        refine lv_aload_n hx hb dX6_put_81 rfl (lv_at hl 1 rfl) ?_
        obtain ⟨i14, hi14⟩ := hW.o8 hk_p0
        replace hr := nnS hr
        obtain ⟨a82, hn82, hr⟩ := hr
        have hk_a82 : kd a82 = 100 := hT.1 164 _ _ hn82
        refine va_get (D := (dC, dI)) (ci := 8) (v := .ref (ad a82)) (C := RX8) (T := TX8) (N := 8) hx hb hts inX8 hown hK hP i14 hi14 rfl 4 (by decide) (hts (.fieldLink RX6 64 "SpellTurner$TextWords" "text" "[B") ic_435) (fun _ h9 => h9) (congrArg (fun o => some (va_re ad o)) hn82) dX6_put_82 ?_
        refine lv_aload_n hx hb dX6_put_85 rfl (lv_at hl 0 rfl) ?_
        obtain ⟨i15, hi15⟩ := hW.o6 hk_this
        refine va_get (D := (dC, dI)) (ci := 6) (v := .int ((G 127) this)) (C := RX6) (T := TX6) (N := 9) hx hb hts inX6 hown hK hP i15 hi15 rfl 7 (by decide) (hts (.fieldLink RX6 36 "SpellTurner$Scribe" "copied" "I") ic_424) (fun _ h9 => h9) rfl dX6_put_86 ?_
        refine lv_aload_n hx hb dX6_put_89 rfl (lv_at hl 1 rfl) ?_
        obtain ⟨i16, hi16⟩ := hW.o8 hk_p0
        refine va_get (D := (dC, dI)) (ci := 8) (v := .int ((G 160) p0)) (C := RX8) (T := TX8) (N := 8) hx hb hts inX8 hown hK hP i16 hi16 rfl 0 (by decide) (hts (.fieldLink RX6 67 "SpellTurner$TextWords" "start" "I") ic_436) (fun _ h9 => h9) rfl dX6_put_90 ?_
        refine lv_aload_n hx hb dX6_put_93 rfl (lv_at hl 0 rfl) ?_
        obtain ⟨i17, hi17⟩ := hW.o6 hk_this
        refine va_get (D := (dC, dI)) (ci := 6) (v := .int ((G 127) this)) (C := RX6) (T := TX6) (N := 9) hx hb hts inX6 hown hK hP i17 hi17 rfl 7 (by decide) (hts (.fieldLink RX6 36 "SpellTurner$Scribe" "copied" "I") ic_424) (fun _ h9 => h9) rfl dX6_put_94 ?_
        refine lv_isub hx hb dX6_put_97 ?_
        replace hr := b3S hr
        obtain ⟨c98_G126, c98_G128, c98_V0, hc98, hr⟩ := hr
        have hFc := fr_all hD hS hA
        obtain ⟨i18, hi18⟩ := hW.o6 hk_this
        refine va_callv (va_runV (As := [.ref (ad a82), .int ((G 127) this), .int (((G 160) p0) - ((G 127) this))]) (rest := []) ⟨hx, hb, hml, hown, hts⟩ (m_X6_append l dC dI kk ad H.size w13 G P U (va_up (va_up V 6 c40_V6) 6 m79) X O kd ln cnt this a82 ((G 127) this) (((G 160) p0) - ((G 127) this)) hk_this hk_a82 hW hT c98_G126 c98_G128 c98_V0 hc98) (cwV 3 hts gc_RX6_X6_append_74 rfl rfl rfl (by decide +kernel) ⟨Nat.le_of_ble_eq_true rfl, Nat.le_of_ble_eq_true rfl⟩) ⟨fun a U g mk q => by obtain ⟨q0, q1, qP, qK, qD⟩ := q; exact ⟨q0, q1, qP, va_K.moved (u := U) (U := U.calling g mk a) (Vm.Alike.refl U.vm) qK, qD⟩, va_recv hK hP (ci := 6) (q0 := i18) rfl hi18, fun U hU hW => ⟨rfl, by rw [hU], by rw [hU]; exact hP, va_K.moved hW.alike hK, hD.weaken (fun _ _ _ _ => trivial)⟩⟩ rfl rfl hl.1 rfl (lv_room (Nat.le_of_ble_eq_true rfl)) dX6_put_98 ⟨Nat.le_of_ble_eq_true rfl, Nat.le_of_ble_eq_true rfl⟩) hS (fun q _ h => hFc q h) hFc (fun w19 t H1 locs ht hvm hw hB hz1 hk1 hS => ?_)
        obtain ⟨hW, hT⟩ := hw
        obtain ⟨hP1, hK1, hD1⟩ := hB
        rw [ht] at hP1
        obtain ⟨hP, hD⟩ := jn_all (w1 := w19) hFc hP1 hD1
        replace hP : va_P (dC, dI) vwCl w19 H1 := hP
        replace hD : va_D A w19 := hD
        clear hFc hP1 hK1 hD1 hk1 hz1 ht hvm
        generalize H1 = H at hP hS ⊢
        refine lv_aload_n hx hb dX6_put_101 rfl (lv_at hl 0 rfl) ?_
        refine lv_aload_n hx hb dX6_put_102 rfl (lv_at hl 2 rfl) ?_
        obtain ⟨i20, hi20⟩ := hW.o10 hk_p1
        replace hr := nnS hr
        obtain ⟨a103, hn103, hr⟩ := hr
        have hk_a103 : kd a103 = 100 := hT.1 201 _ _ hn103
        refine va_get (D := (dC, dI)) (ci := 10) (v := .ref (ad a103)) (C := RX10) (T := TX10) (N := 4) hx hb hts inX10 hown hK hP i20 hi20 rfl 1 (by decide) (hts (.fieldLink RX6 78 "SpellTurner$WordRow" "letters" "[B") ic_440) (fun _ h9 => h9) (congrArg (fun o => some (va_re ad o)) hn103) dX6_put_103 ?_
        refine lv_iconst (v := 0) hx hb dX6_put_106 (by decide +kernel) ?_
        refine lv_aload_n hx hb dX6_put_107 rfl (lv_at hl 2 rfl) ?_
        obtain ⟨i21, hi21⟩ := hW.o10 hk_p1
        replace hr := nnS hr
        obtain ⟨a108, hn108, hr⟩ := hr
        have hk_a108 : kd a108 = 101 := hT.1 202 _ _ hn108
        refine va_get (D := (dC, dI)) (ci := 10) (v := .ref (ad a108)) (C := RX10) (T := TX10) (N := 4) hx hb hts inX10 hown hK hP i21 hi21 rfl 2 (by decide) (hts (.fieldLink RX6 56 "SpellTurner$WordRow" "lengths" "[I") ic_433) (fun _ h9 => h9) (congrArg (fun o => some (va_re ad o)) hn108) dX6_put_108 ?_
        refine lv_iconst (v := 0) hx hb dX6_put_111 (by decide +kernel) ?_
        obtain ⟨i22, hi22⟩ := hW.v1 hk_a108
        replace hr := iteS hr
        obtain ⟨hi112, hr⟩ := hr
        refine va_iald (f := ((V 1) a108)) hx hb hK hP i22 1 hi22 rfl (inbV hi112) dX6_put_112 ?_
        replace hr := b3S hr
        obtain ⟨c113_G126, c113_G128, c113_V0, hc113, hr⟩ := hr
        have hFc := fr_all hD hS hA
        obtain ⟨i23, hi23⟩ := hW.o6 hk_this
        refine va_callv (va_runV (As := [.ref (ad a103), .int 0, .int (((V 1) a108) (Int32.toNatClampNeg 0))]) (rest := []) ⟨hx, hb, hml, hown, hts⟩ (m_X6_append l dC dI kk ad H.size w19 (va_up (va_up G 126 c98_G126) 128 c98_G128) P U (va_up (va_up (va_up V 6 c40_V6) 6 m79) 0 c98_V0) X O kd ln cnt this a103 0 (((V 1) a108) (Int32.toNatClampNeg 0)) hk_this hk_a103 hW hT c113_G126 c113_G128 c113_V0 hc113) (cwV 3 hts gc_RX6_X6_append_74 rfl rfl rfl (by decide +kernel) ⟨Nat.le_of_ble_eq_true rfl, Nat.le_of_ble_eq_true rfl⟩) ⟨fun a U g mk q => by obtain ⟨q0, q1, qP, qK, qD⟩ := q; exact ⟨q0, q1, qP, va_K.moved (u := U) (U := U.calling g mk a) (Vm.Alike.refl U.vm) qK, qD⟩, va_recv hK hP (ci := 6) (q0 := i23) rfl hi23, fun U hU hW => ⟨rfl, by rw [hU], by rw [hU]; exact hP, va_K.moved hW.alike hK, hD.weaken (fun _ _ _ _ => trivial)⟩⟩ rfl rfl hl.1 rfl (lv_room (Nat.le_of_ble_eq_true rfl)) dX6_put_113 ⟨Nat.le_of_ble_eq_true rfl, Nat.le_of_ble_eq_true rfl⟩) hS (fun q _ h => hFc q h) hFc (fun w24 t H1 locs ht hvm hw hB hz1 hk1 hS => ?_)
        obtain ⟨hW, hT⟩ := hw
        obtain ⟨hP1, hK1, hD1⟩ := hB
        rw [ht] at hP1
        obtain ⟨hP, hD⟩ := jn_all (w1 := w24) hFc hP1 hD1
        replace hP : va_P (dC, dI) vwCl w24 H1 := hP
        replace hD : va_D A w24 := hD
        clear hFc hP1 hK1 hD1 hk1 hz1 ht hvm
        generalize H1 = H at hP hS ⊢
        refine lv_aload_n hx hb dX6_put_116 rfl (lv_at hl 0 rfl) ?_
        refine lv_aload_n hx hb dX6_put_117 rfl (lv_at hl 1 rfl) ?_
        obtain ⟨i25, hi25⟩ := hW.o8 hk_p0
        refine va_get (D := (dC, dI)) (ci := 8) (v := .int ((G 160) p0)) (C := RX8) (T := TX8) (N := 8) hx hb hts inX8 hown hK hP i25 hi25 rfl 0 (by decide) (hts (.fieldLink RX6 67 "SpellTurner$TextWords" "start" "I") ic_436) (fun _ h9 => h9) rfl dX6_put_118 ?_
        refine lv_aload_n hx hb dX6_put_121 rfl (lv_at hl 1 rfl) ?_
        obtain ⟨i26, hi26⟩ := hW.o8 hk_p0
        refine va_get (D := (dC, dI)) (ci := 8) (v := .int ((G 161) p0)) (C := RX8) (T := TX8) (N := 8) hx hb hts inX8 hown hK hP i26 hi26 rfl 1 (by decide) (hts (.fieldLink RX6 59 "SpellTurner$TextWords" "length" "I") ic_434) (fun _ h9 => h9) rfl dX6_put_122 ?_
        refine lv_iadd hx hb dX6_put_125 ?_
        refine lv_topi (fun x126 ex126 => ?_)
        replace hr := vlS hr x126 ex126
        clear ex126
        obtain ⟨i27, hi27⟩ := hW.o6 hk_this
        refine va_put (D := (dC, dI)) (ci := 6) (v := .int x126) (ty := .int) (C := RX6) (T := TX6) (N := 9) hx hb hts inX6 tyX6 tyX6_ok nmX6 hown hK hP hD hS i27 hi27 rfl 7 (by decide) (hts (.fieldLink RX6 36 "SpellTurner$Scribe" "copied" "I") ic_424) (fun _ h9 => h9) rfl (by decide +kernel) rfl rfl (Nat.le_of_ble_eq_true rfl) dX6_put_126 (fun H locs hP2 hD2 hS => ?_)
        obtain ⟨m126, w28, em126, hP, hD, hW⟩ : ∃ (z : Nat → Int32) (w : va_W), z = (va_up (G 127) this x126) ∧ va_P (dC, dI) vwCl w H ∧ va_D A w ∧ LW w ad kk kd ln (va_up (va_up (va_up (va_up (va_up G 126 c98_G126) 128 c98_G128) 126 c113_G126) 128 c113_G128) 127 z) P U (va_up (va_up (va_up (va_up V 6 c40_V6) 6 m79) 0 c98_V0) 0 c113_V0) X O := ⟨_, _, rfl, hP2, hD2, hW.setG hD hi27 (by rw [hk_this]; decide) 127 x126 (by rw [hk_this]; rfl)⟩
        replace hr := vlS hr m126 em126
        clear em126
        have eG : (va_up (va_up (va_up (va_up (va_up G 126 c98_G126) 128 c98_G128) 126 c113_G126) 128 c113_G128) 127 m126) = (va_up (va_up (va_up G 126 c113_G126) 127 m126) 128 c113_G128) := by
          funext k
          by_cases h126 : k = 126
          · subst h126; rfl
          by_cases h127 : k = 127
          · subst h127; rfl
          by_cases h128 : k = 128
          · subst h128; rfl
          · simp only [va_up, h126, h127, h128, if_false]
        rw [eG] at hW
        clear eG
        have eV : (va_up (va_up (va_up (va_up V 6 c40_V6) 6 m79) 0 c98_V0) 0 c113_V0) = (va_up (va_up V 0 c113_V0) 6 m79) := by
          funext k
          by_cases h0 : k = 0
          · subst h0; rfl
          by_cases h6 : k = 6
          · subst h6; rfl
          · simp only [va_up, h0, h6, if_false]
        rw [eV] at hW
        clear eV
        exact K 129 ls _ _ _ _ _ w28 H _ hr dX6_put_129 hW hT hP hD hS
      refine lv_icmp_ne (tgt := 70) hx hb dX6_put_50 (by decide) (fun c50 => ?_) (fun c50 => ?_)
      · replace hr := iteF c50 hr
        exact Jj70 ws H _ ls hr hW hT hP hD hS (lv_sub hl [0, 1, 2] rfl)
      · replace hr := iteT c50 hr
        refine lv_aload_n hx hb dX6_put_53 rfl (lv_at hl 2 rfl) ?_
        refine lv_iconst (v := 0) hx hb dX6_put_54 (by decide +kernel) ?_
        refine lv_aload_n hx hb dX6_put_55 rfl (lv_at hl 1 rfl) ?_
        obtain ⟨i29, hi29⟩ := hW.o8 hk_p0
        replace hr := nnS hr
        obtain ⟨a56, hn56, hr⟩ := hr
        have hk_a56 : kd a56 = 100 := hT.1 164 _ _ hn56
        refine va_get (D := (dC, dI)) (ci := 8) (v := .ref (ad a56)) (C := RX8) (T := TX8) (N := 8) hx hb hts inX8 hown hK hP i29 hi29 rfl 4 (by decide) (hts (.fieldLink RX6 64 "SpellTurner$TextWords" "text" "[B") ic_435) (fun _ h9 => h9) (congrArg (fun o => some (va_re ad o)) hn56) dX6_put_56 ?_
        refine lv_aload_n hx hb dX6_put_59 rfl (lv_at hl 1 rfl) ?_
        obtain ⟨i30, hi30⟩ := hW.o8 hk_p0
        refine va_get (D := (dC, dI)) (ci := 8) (v := .int ((G 160) p0)) (C := RX8) (T := TX8) (N := 8) hx hb hts inX8 hown hK hP i30 hi30 rfl 0 (by decide) (hts (.fieldLink RX6 67 "SpellTurner$TextWords" "start" "I") ic_436) (fun _ h9 => h9) rfl dX6_put_60 ?_
        replace hr := b1S hr
        obtain ⟨r63z, hc63, hr⟩ := hr
        have hFc := fr_all hD hS hA
        obtain ⟨i31, hi31⟩ := hW.o10 hk_p1
        refine va_calli (va_runV (As := [.int 0, .ref (ad a56), .int ((G 160) p0)]) (rest := []) ⟨hx, hb, hml, hown, hts⟩ (m_X10_standsIn l dC dI kk ad H.size ws G P U (va_up V 6 c40_V6) X O kd ln cnt p1 0 a56 ((G 160) p0) hk_p1 hk_a56 hW hT r63z hc63) (cwV 3 hts gc_RX6_X10_standsIn_70 rfl rfl rfl (by decide +kernel) ⟨Nat.le_of_ble_eq_true rfl, Nat.le_of_ble_eq_true rfl⟩) ⟨fun a U g mk q => by obtain ⟨q0, q1, qP, qK, qD⟩ := q; exact ⟨q0, q1, qP, va_K.moved (u := U) (U := U.calling g mk a) (Vm.Alike.refl U.vm) qK, qD⟩, va_recv hK hP (ci := 10) (q0 := i31) rfl hi31, fun U hU hW => ⟨rfl, by rw [hU], by rw [hU]; exact hP, va_K.moved hW.alike hK, hD.weaken (fun _ _ _ _ => trivial)⟩⟩ rfl rfl hl.1 rfl (lv_room (Nat.le_of_ble_eq_true rfl)) dX6_put_63 ⟨Nat.le_of_ble_eq_true rfl, Nat.le_of_ble_eq_true rfl⟩) hS (fun q _ h => hFc q h) hFc (fun r63 w32 t H1 locs ht hvm hw hB hz1 hk1 hS => ?_)
        obtain ⟨hw0, hW, hT⟩ := hw
        replace hw0 : r63 = r63z := hw0
        subst hw0
        obtain ⟨hP1, hK1, hD1⟩ := hB
        rw [ht] at hP1
        obtain ⟨hP, hD⟩ := jn_all (w1 := w32) hFc hP1 hD1
        replace hP : va_P (dC, dI) vwCl w32 H1 := hP
        replace hD : va_D A w32 := hD
        clear hFc hP1 hK1 hD1 hk1 hz1 ht hvm
        generalize H1 = H at hP hS ⊢
        refine lv_if_eq (tgt := 70) hx hb dX6_put_66 (by decide) (fun c66 => ?_) (fun c66 => ?_)
        · replace hr := iteT c66 hr
          exact Jj70 w32 H _ ls hr hW hT hP hD hS (lv_sub hl [0, 1, 2] rfl)
        · replace hr := iteF c66 hr
          have eG : G = (va_up (va_up (va_up G 126 (G 126)) 127 (G 127)) 128 (G 128)) := by
            funext k
            by_cases h126 : k = 126
            · subst h126; rfl
            by_cases h127 : k = 127
            · subst h127; rfl
            by_cases h128 : k = 128
            · subst h128; rfl
            · simp only [va_up, h126, h127, h128, if_false]
          rw [eG] at hW
          clear eG
          have eV : (va_up V 6 c40_V6) = (va_up (va_up V 0 (V 0)) 6 c40_V6) := by
            funext k
            by_cases h0 : k = 0
            · subst h0; rfl
            by_cases h6 : k = 6
            · subst h6; rfl
            · simp only [va_up, h0, h6, if_false]
          rw [eV] at hW
          clear eV
          exact K 69 ls _ _ _ _ _ w32 H _ hr dX6_put_69 hW hT hP hD hS
    refine lv_icmp_le (tgt := 40) hx hb dX6_put_27 (by decide) (fun c27 => ?_) (fun c27 => ?_)
    · replace hr := iteT c27 hr
      exact Jj40 m21 w5 H _ ls hr hW hT hP hD hS (lv_sub hl [0, 1, 2] rfl)
    · replace hr := iteF c27 hr
      refine lv_aload_n hx hb dX6_put_30 rfl (lv_at hl 0 rfl) ?_
      obtain ⟨i33, hi33⟩ := hW.o6 hk_this
      replace hr := nnS hr
      obtain ⟨a31, hn31, hr⟩ := hr
      have hk_a31 : kd a31 = 106 := hT.1 123 _ _ hn31
      refine va_get (D := (dC, dI)) (ci := 6) (v := .ref (ad a31)) (C := RX6) (T := TX6) (N := 9) hx hb hts inX6 hown hK hP i33 hi33 rfl 3 (by decide) (hts (.fieldLink RX6 22 "SpellTurner$Scribe" "tally" "[I") ic_421) (fun _ h9 => h9) (congrArg (fun o => some (va_re ad o)) hn31) dX6_put_31 ?_
      refine lv_iconst (v := 2) hx hb dX6_put_34 (by decide +kernel) ?_
      refine lv_dup2_11 hx hb dX6_put_35 rfl rfl ?_
      obtain ⟨i34, hi34⟩ := hW.v6 hk_a31
      replace hr := iteS hr
      obtain ⟨hi36, hr⟩ := hr
      refine va_iald (f := (m21 a31)) hx hb hK hP i34 1 hi34 rfl (inbV hi36) dX6_put_36 ?_
      refine lv_iconst (v := 1) hx hb dX6_put_37 (by decide +kernel) ?_
      refine lv_iadd hx hb dX6_put_38 ?_
      obtain ⟨i35, hi35⟩ := hW.v6 hk_a31
      replace hr := iteS hr
      obtain ⟨hi39, hr⟩ := hr
      refine va_iast (f := (m21 a31)) hx hb hK hP hD hS i35 1 hi35 rfl (inbV hi39) dX6_put_39 (fun H locs hP2 hD2 hS => ?_)
      obtain ⟨m39, w36, em39, hP, hD, hW⟩ : ∃ (z : Nat → Nat → Int32) (w : va_W), z = (va_up m21 a31 (upd (m21 a31) (Int32.toNatClampNeg 2) (((m21 a31) (Int32.toNatClampNeg 2)) + 1))) ∧ va_P (dC, dI) vwCl w H ∧ va_D A w ∧ LW w ad kk kd ln G P U (va_up (va_up V 6 m21) 6 z) X O := ⟨_, _, rfl, hP2, hD2, hW.setV hD hi35 (by rw [hk_a31]; decide) 6 (upd (m21 a31) (Int32.toNatClampNeg 2) (((m21 a31) (Int32.toNatClampNeg 2)) + 1)) (by rw [hk_a31]; rfl)⟩
      replace hr := vlS hr m39 em39
      clear em39
      have eV : (va_up (va_up V 6 m21) 6 m39) = (va_up V 6 m39) := by
        funext k
        by_cases h6 : k = 6
        · subst h6; rfl
        · simp only [va_up, h6, if_false]
      rw [eV] at hW
      clear eV
      exact Jj40 m39 w36 H _ ls hr hW hT hP hD hS (lv_sub hl [0, 1, 2] rfl)
  · replace hr := iteT c4 hr
    refine lv_aload_n hx hb dX6_put_7 rfl (lv_at hl 0 rfl) ?_
    replace hr := b1S hr
    obtain ⟨c8_V6, hc8, hr⟩ := hr
    have hFc := fr_all hD hS hA
    obtain ⟨i37, hi37⟩ := hW.o6 hk_this
    refine va_callv (va_runV (As := []) (rest := []) ⟨hx, hb, hml, hown, hts⟩ (m_X6_leaveLost l dC dI kk ad H.size ws G P U V X O kd ln cnt this hk_this hW hT c8_V6 hc8) (cwV 0 hts gc_RX6_X6_leaveLost_53 rfl rfl rfl (by decide +kernel) ⟨Nat.le_of_ble_eq_true rfl, Nat.le_of_ble_eq_true rfl⟩) ⟨fun a U g mk q => by obtain ⟨q0, q1, qP, qK, qD⟩ := q; exact ⟨q0, q1, qP, va_K.moved (u := U) (U := U.calling g mk a) (Vm.Alike.refl U.vm) qK, qD⟩, va_recv hK hP (ci := 6) (q0 := i37) rfl hi37, fun U hU hW => ⟨rfl, by rw [hU], by rw [hU]; exact hP, va_K.moved hW.alike hK, hD.weaken (fun _ _ _ _ => trivial)⟩⟩ rfl rfl hl.1 rfl (lv_room (Nat.le_of_ble_eq_true rfl)) dX6_put_8 ⟨Nat.le_of_ble_eq_true rfl, Nat.le_of_ble_eq_true rfl⟩) hS (fun q _ h => hFc q h) hFc (fun w38 t H1 locs ht hvm hw hB hz1 hk1 hS => ?_)
    obtain ⟨hW, hT⟩ := hw
    obtain ⟨hP1, hK1, hD1⟩ := hB
    rw [ht] at hP1
    obtain ⟨hP, hD⟩ := jn_all (w1 := w38) hFc hP1 hD1
    replace hP : va_P (dC, dI) vwCl w38 H1 := hP
    replace hD : va_D A w38 := hD
    clear hFc hP1 hK1 hD1 hk1 hz1 ht hvm
    generalize H1 = H at hP hS ⊢
    have eG : G = (va_up (va_up (va_up G 126 (G 126)) 127 (G 127)) 128 (G 128)) := by
      funext k
      by_cases h126 : k = 126
      · subst h126; rfl
      by_cases h127 : k = 127
      · subst h127; rfl
      by_cases h128 : k = 128
      · subst h128; rfl
      · simp only [va_up, h126, h127, h128, if_false]
    rw [eG] at hW
    clear eG
    have eV : (va_up V 6 c8_V6) = (va_up (va_up V 0 (V 0)) 6 c8_V6) := by
      funext k
      by_cases h0 : k = 0
      · subst h0; rfl
      by_cases h6 : k = 6
      · subst h6; rfl
      · simp only [va_up, h0, h6, if_false]
    rw [eV] at hW
    clear eV
    exact K 11 ls _ _ _ _ _ w38 H _ hr dX6_put_11 hW hT hP hD hS
set_option maxHeartbeats 4000000 in
set_option maxRecDepth 100000 in
theorem m_X6_put (l : Launch) (dC : Nat → ClassId) (dI : Nat → Nat → Nat) (kk : Nat → ClassId) (ad : Nat → Nat) (sz : Nat) (ws : va_W) (G : Nat → Nat → Int32) (P : Nat → Nat → Option Nat) (U : Nat → Nat → Int64) (V : Nat → Nat → Nat → Int32) (X : Nat → Nat → Nat → Int64) (O : Nat → Nat → Nat → Option Nat) (kd : Nat → Nat) (ln : Nat → Nat) (cnt : Nat) (this : Nat) (p0 : Nat) (p1 : Nat) (hk_this : kd this = 7) (hk_p0 : kd p0 = 9) (hk_p1 : kd p1 = 11) (hW : LW ws ad kk kd ln G P U V X O) (hT : TYP kd P O (V 0) cnt) (c_G126 : Nat → Int32) (c_G127 : Nat → Int32) (c_G128 : Nat → Int32) (c_V0 : Nat → Nat → Int32) (c_V6 : Nat → Nat → Int32) (hr : f_X6_put G P U V X O kd ln cnt this p0 p1 = some (c_G126, c_G127, c_G128, c_V0, c_V6)) : Met l yX6_put vmX6_put ({ frames := 4, cells := 0, slots := 0, locals := 143 } : Room) (va_Pc [.ref (ad this), .ref (ad p0), .ref (ad p1)] (fun U => U.heap.size = sz ∧ va_P (dC, dI) vwCl ws U.heap ∧ va_K (dC, dI) vwCl (cT kk) U ∧ va_D (fun _ => True) ws)) (va_Qv (fun w => LW w ad kk kd ln (va_up (va_up (va_up G 126 c_G126) 127 c_G127) 128 c_G128) P U (va_up (va_up V 0 c_V0) 6 c_V6) X O ∧ TYP kd P O c_V0 cnt) (fun w t => va_P (dC, dI) vwCl w t.heap ∧ va_K (dC, dI) vwCl (cT kk) t ∧ va_D (va_A ws sz) w) (va_A ws sz)) 0 0 (va_A ws sz) := by
  refine Met.ofW (cc := cX6_put) (maxL := 3) (ret := none) (by decide) rfl ?_
  intro p e s m args below meth c s₁ B hml hv
  obtain ⟨rfl, hsz, hP, hK, hD0⟩ := hv
  have hx := B.exec
  have hb := B.bytes
  have hrt := B.returns
  have hts := atoms_spec (ws := vmX6_put) B.pre
  have hown : s.vm.findClass RX6 = some m.cls := findClass_of_methodNamed B.named
  subst hsz
  have hD := hD0.self (sz := s.heap.size)
  generalize hAe : va_A ws s.heap.size = A at hD ⊢
  have hA : ∀ q : Nat, s.heap.size ≤ q → A q := fun q h => by rw [← hAe]; exact Or.inr h
  have hS : va_S A s.heap s.heap [] := va_S.rf
  have hl := lv_entry ([.ref (ad this), .ref (ad p0), .ref (ad p1)]) (n := 3) (Nat.le_of_ble_eq_true rfl)
  rw [lg_entry_eq]
  generalize (lg_sl ([.ref (ad this), .ref (ad p0), .ref (ad p1)]) ++ List.replicate (3 - (lg_sl ([.ref (ad this), .ref (ad p0), .ref (ad p1)])).length) Slot.unset).toArray = ls at hl ⊢
  exact bm_X6_put this p0 p1 hk_this hk_p0 hk_p1 c_G126 c_G127 c_G128 c_V0 c_V6 hr hx hb hml hown hts hA hK hW hT hP hD hS hl (fun pc ls c_G126z c_G127z c_G128z c_V0z c_V6z ws H locs he hd hW hT hP hD hS => by cases he; exact W.vret hx hb hrt (fun t ht hW9 => ⟨⟨ws, rfl, ⟨hW, hT⟩, by rw [ht]; exact hP, va_K.moved hW9.alike hK, hD⟩, hS.F ht⟩) hS.2.2 hd)
set_option maxHeartbeats 4000000 in
set_option maxRecDepth 100000 in
theorem bm_X6_finish {p : Program} {l : Launch} {e : Env} {s : State} {m : MethodId} {args : Array Value} {below : List Frame} {meth : Method} {c : Code} {Q : State → Prop} {A : Nat → Prop} {dC : Nat → ClassId} {dI : Nat → Nat → Nat} {kk : Nat → ClassId} {ad : Nat → Nat} {ws : va_W} {G : Nat → Nat → Int32} {P : Nat → Nat → Option Nat} {U : Nat → Nat → Int64} {V : Nat → Nat → Nat → Int32} {X : Nat → Nat → Nat → Int64} {O : Nat → Nat → Nat → Option Nat} {kd : Nat → Nat} {ln : Nat → Nat} {cnt : Nat} {H : Heap} {locs : List Loc} {ls : Array Slot} (this : Nat) (p0 : Nat) (p1 : Int32) (hk_this : kd this = 7) (hk_p0 : kd p0 = 100) (r : Int32) (c_G124 : Nat → Int32) (c_G125 : Nat → Int32) (c_G126 : Nat → Int32) (c_G128 : Nat → Int32) (c_P120 : Nat → Option Nat) (c_P121 : Nat → Option Nat) (c_P122 : Nat → Option Nat) (c_P123 : Nat → Option Nat) (c_V0 : Nat → Nat → Int32) (hr : f_X6_finish G P U V X O kd ln cnt this p0 p1 = some (r, c_G124, c_G125, c_G126, c_G128, c_P120, c_P121, c_P122, c_P123, c_V0)) (hx : p.tables.exec = Jvm.exec) (hb : c.code = cX6_finish) (hml : c.maxLocals = 5) (hown : s.vm.findClass RX6 = some m.cls) (hts : ∀ w ∈ vmX6_finish, w.before args s = true) (hA : ∀ q : Nat, s.heap.size ≤ q → A q) (hK : va_K (dC, dI) vwCl (cT kk) s) (hW : LW ws ad kk kd ln G P U V X O) (hT : TYP kd P O (V 0) cnt) (hP : va_P (dC, dI) vwCl ws H) (hD : va_D A ws) (hS : va_S A s.heap H locs) (hl : lv_has ls 5 [(0, .ref (ad this)), (1, .ref (ad p0)), (2, .int p1)])
    (K : ∀ (pc : Nat) (ls : Array Slot) (rz : Int32) (c_G124z : Nat → Int32) (c_G125z : Nat → Int32) (c_G126z : Nat → Int32) (c_G128z : Nat → Int32) (c_P120z : Nat → Option Nat) (c_P121z : Nat → Option Nat) (c_P122z : Nat → Option Nat) (c_P123z : Nat → Option Nat) (c_V0z : Nat → Nat → Int32) (ws : va_W) (H : Heap) (locs : List Loc), some (rz, c_G124z, c_G125z, c_G126z, c_G128z, c_P120z, c_P121z, c_P122z, c_P123z, c_V0z) = some (r, c_G124, c_G125, c_G126, c_G128, c_P120, c_P121, c_P122, c_P123, c_V0) → decode cX6_finish pc = .ok (.ireturn, 1) → LW ws ad kk kd ln (va_up (va_up (va_up (va_up G 124 c_G124z) 125 c_G125z) 126 c_G126z) 128 c_G128z) (va_up (va_up (va_up (va_up P 120 c_P120z) 121 c_P121z) 122 c_P122z) 123 c_P123z) U (va_up V 0 c_V0z) X O → TYP kd (va_up (va_up (va_up (va_up P 120 c_P120z) 121 c_P121z) 122 c_P122z) 123 c_P123z) O c_V0z cnt → va_P (dC, dI) vwCl ws H → va_D A ws → va_S A s.heap H locs → W p l e ({ frames := 4, cells := 0, slots := 0, locals := 143 } : Room) s m args below meth c H locs 0 0 Q (F0 m pc ls [.int rz])) : W p l e ({ frames := 4, cells := 0, slots := 0, locals := 143 } : Room) s m args below meth c H locs 0 0 Q (F0 m 0 ls []) := by
  unfold f_X6_finish at hr
  refine lv_aload_n hx hb dX6_finish_0 rfl (lv_at hl 0 rfl) ?_
  refine lv_aload_n hx hb dX6_finish_1 rfl (lv_at hl 1 rfl) ?_
  refine lv_aload_n hx hb dX6_finish_2 rfl (lv_at hl 0 rfl) ?_
  obtain ⟨i1, hi1⟩ := hW.o6 hk_this
  refine va_get (D := (dC, dI)) (ci := 6) (v := .int ((G 127) this)) (C := RX6) (T := TX6) (N := 9) hx hb hts inX6 hown hK hP i1 hi1 rfl 7 (by decide) (hts (.fieldLink RX6 36 "SpellTurner$Scribe" "copied" "I") ic_424) (fun _ h9 => h9) rfl dX6_finish_3 ?_
  refine lv_iload_n hx hb dX6_finish_6 rfl (lv_at hl 2 rfl) ?_
  refine lv_aload_n hx hb dX6_finish_7 rfl (lv_at hl 0 rfl) ?_
  obtain ⟨i2, hi2⟩ := hW.o6 hk_this
  refine va_get (D := (dC, dI)) (ci := 6) (v := .int ((G 127) this)) (C := RX6) (T := TX6) (N := 9) hx hb hts inX6 hown hK hP i2 hi2 rfl 7 (by decide) (hts (.fieldLink RX6 36 "SpellTurner$Scribe" "copied" "I") ic_424) (fun _ h9 => h9) rfl dX6_finish_8 ?_
  refine lv_isub hx hb dX6_finish_11 ?_
  replace hr := b3S hr
  obtain ⟨c12_G126, c12_G128, c12_V0, hc12, hr⟩ := hr
  have hFc := fr_all hD hS hA
  obtain ⟨i3, hi3⟩ := hW.o6 hk_this
  refine va_callv (va_runV (As := [.ref (ad p0), .int ((G 127) this), .int (p1 - ((G 127) this))]) (rest := []) ⟨hx, hb, hml, hown, hts⟩ (m_X6_append l dC dI kk ad H.size ws G P U V X O kd ln cnt this p0 ((G 127) this) (p1 - ((G 127) this)) hk_this hk_p0 hW hT c12_G126 c12_G128 c12_V0 hc12) (cwV 3 hts gc_RX6_X6_append_74 rfl rfl rfl (by decide +kernel) ⟨Nat.le_of_ble_eq_true rfl, Nat.le_of_ble_eq_true rfl⟩) ⟨fun a U g mk q => by obtain ⟨q0, q1, qP, qK, qD⟩ := q; exact ⟨q0, q1, qP, va_K.moved (u := U) (U := U.calling g mk a) (Vm.Alike.refl U.vm) qK, qD⟩, va_recv hK hP (ci := 6) (q0 := i3) rfl hi3, fun U hU hW => ⟨rfl, by rw [hU], by rw [hU]; exact hP, va_K.moved hW.alike hK, hD.weaken (fun _ _ _ _ => trivial)⟩⟩ rfl rfl hl.1 rfl (lv_room (Nat.le_of_ble_eq_true rfl)) dX6_finish_12 ⟨Nat.le_of_ble_eq_true rfl, Nat.le_of_ble_eq_true rfl⟩) hS (fun q _ h => hFc q h) hFc (fun w4 t H1 locs ht hvm hw hB hz1 hk1 hS => ?_)
  obtain ⟨hW, hT⟩ := hw
  obtain ⟨hP1, hK1, hD1⟩ := hB
  rw [ht] at hP1
  obtain ⟨hP, hD⟩ := jn_all (w1 := w4) hFc hP1 hD1
  replace hP : va_P (dC, dI) vwCl w4 H1 := hP
  replace hD : va_D A w4 := hD
  clear hFc hP1 hK1 hD1 hk1 hz1 ht hvm
  generalize H1 = H at hP hS ⊢
  refine lv_aload_n hx hb dX6_finish_15 rfl (lv_at hl 0 rfl) ?_
  obtain ⟨i5, hi5⟩ := hW.o6 hk_this
  refine va_get (D := (dC, dI)) (ci := 6) (v := .int (c12_G128 this)) (C := RX6) (T := TX6) (N := 9) hx hb hts inX6 hown hK hP i5 hi5 rfl 8 (by decide) (hts (.fieldLink RX6 39 "SpellTurner$Scribe" "fits" "Z") ic_425) (fun _ h9 => h9) rfl dX6_finish_16 ?_
  refine lv_if_ne (tgt := 24) hx hb dX6_finish_19 (by decide) (fun c19 => ?_) (fun c19 => ?_)
  · replace hr := iteF c19 hr
    refine lv_aload_n hx hb dX6_finish_24 rfl (lv_at hl 0 rfl) ?_
    obtain ⟨i6, hi6⟩ := hW.o6 hk_this
    replace hr := nnS hr
    obtain ⟨a25, hn25, hr⟩ := hr
    have hk_a25 : kd a25 = 100 := hT.1 120 _ _ hn25
    refine va_get (D := (dC, dI)) (ci := 6) (v := .ref (ad a25)) (C := RX6) (T := TX6) (N := 9) hx hb hts inX6 hown hK hP i6 hi6 rfl 0 (by decide) (hts (.fieldLink RX6 9 "SpellTurner$Scribe" "told" "[B") ic_182) (fun _ h9 => h9) (congrArg (fun o => some (va_re ad o)) hn25) dX6_finish_25 ?_
    refine lv_astore_n (lv' := [(3, .ref (ad a25)), (0, .ref (ad this)), (1, .ref (ad p0)), (2, .int p1)]) hx hb dX6_finish_28 rfl hl (by decide) rfl (fun ls hl => ?_)
    refine lv_aload_n hx hb dX6_finish_29 rfl (lv_at hl 1 rfl) ?_
    refine lv_aload_n hx hb dX6_finish_30 rfl (lv_at hl 1 rfl) ?_
    obtain ⟨i7, hi7⟩ := hW.o6 hk_this
    replace hr := nnS hr
    obtain ⟨a31, hn31, hr⟩ := hr
    have hk_a31 : kd a31 = 100 := hT.1 121 _ _ hn31
    refine va_get (D := (dC, dI)) (ci := 6) (v := .ref (ad a31)) (C := RX6) (T := TX6) (N := 9) hx hb hts inX6 hown hK hP i7 hi7 rfl 1 (by decide) (hts (.fieldLink RX6 15 "SpellTurner$Scribe" "page" "[B") ic_429) (fun _ h9 => h9) (congrArg (fun o => some (va_re ad o)) hn31) dX6_finish_31 ?_
    obtain ⟨i8, hi8⟩ := hW.o6 hk_this
    refine va_put (D := (dC, dI)) (ci := 6) (v := .ref (ad a31)) (ty := (.array .byte)) (C := RX6) (T := TX6) (N := 9) hx hb hts inX6 tyX6 tyX6_ok nmX6 hown hK hP hD hS i8 hi8 rfl 0 (by decide) (hts (.fieldLink RX6 9 "SpellTurner$Scribe" "told" "[B") ic_182) (fun _ h9 => h9) rfl (by decide +kernel) rfl rfl (Nat.le_of_ble_eq_true rfl) dX6_finish_34 (fun H locs hP2 hD2 hS => ?_)
    obtain ⟨m34, w9, em34, hP, hD, hW⟩ : ∃ (z : Nat → Option Nat) (w : va_W), z = (va_up (P 120) this (some a31)) ∧ va_P (dC, dI) vwCl w H ∧ va_D A w ∧ LW w ad kk kd ln (va_up (va_up G 126 c12_G126) 128 c12_G128) (va_up P 120 z) U (va_up V 0 c12_V0) X O := ⟨_, _, rfl, hP2, hD2, hW.setP hD hi8 (by rw [hk_this]; decide) 120 (some a31) (by rw [hk_this]; rfl)⟩
    replace hT : TYP kd (va_up P 120 m34) O c12_V0 cnt := by rw [em34]; exact hT.setP 120 this a31 hk_a31
    replace hr := vlS hr m34 em34
    clear em34
    refine lv_aload_n hx hb dX6_finish_37 rfl (lv_at hl 1 rfl) ?_
    refine lv_aload_n hx hb dX6_finish_38 rfl (lv_at hl 0 rfl) ?_
    obtain ⟨i10, hi10⟩ := hW.o6 hk_this
    refine va_put (D := (dC, dI)) (ci := 6) (v := .ref (ad a25)) (ty := (.array .byte)) (C := RX6) (T := TX6) (N := 9) hx hb hts inX6 tyX6 tyX6_ok nmX6 hown hK hP hD hS i10 hi10 rfl 1 (by decide) (hts (.fieldLink RX6 15 "SpellTurner$Scribe" "page" "[B") ic_429) (fun _ h9 => h9) rfl (by decide +kernel) rfl rfl (Nat.le_of_ble_eq_true rfl) dX6_finish_39 (fun H locs hP2 hD2 hS => ?_)
    obtain ⟨m39, w11, em39, hP, hD, hW⟩ : ∃ (z : Nat → Option Nat) (w : va_W), z = (va_up (P 121) this (some a25)) ∧ va_P (dC, dI) vwCl w H ∧ va_D A w ∧ LW w ad kk kd ln (va_up (va_up G 126 c12_G126) 128 c12_G128) (va_up (va_up P 120 m34) 121 z) U (va_up V 0 c12_V0) X O := ⟨_, _, rfl, hP2, hD2, hW.setP hD hi10 (by rw [hk_this]; decide) 121 (some a25) (by rw [hk_this]; rfl)⟩
    replace hT : TYP kd (va_up (va_up P 120 m34) 121 m39) O c12_V0 cnt := by rw [em39]; exact hT.setP 121 this a25 hk_a25
    replace hr := vlS hr m39 em39
    clear em39
    refine lv_aload_n hx hb dX6_finish_42 rfl (lv_at hl 1 rfl) ?_
    obtain ⟨i12, hi12⟩ := hW.o6 hk_this
    replace hr := nnS hr
    obtain ⟨a43, hn43, hr⟩ := hr
    have hk_a43 : kd a43 = 106 := hT.1 122 _ _ hn43
    refine va_get (D := (dC, dI)) (ci := 6) (v := .ref (ad a43)) (C := RX6) (T := TX6) (N := 9) hx hb hts inX6 hown hK hP i12 hi12 rfl 2 (by decide) (hts (.fieldLink RX6 18 "SpellTurner$Scribe" "toldTally" "[I") ic_127) (fun _ h9 => h9) (congrArg (fun o => some (va_re ad o)) hn43) dX6_finish_43 ?_
    refine lv_astore (lv' := [(4, .ref (ad a43)), (3, .ref (ad a25)), (0, .ref (ad this)), (1, .ref (ad p0)), (2, .int p1)]) hx hb dX6_finish_46 hl (by decide) rfl (fun ls hl => ?_)
    refine lv_aload_n hx hb dX6_finish_48 rfl (lv_at hl 2 rfl) ?_
    refine lv_aload_n hx hb dX6_finish_49 rfl (lv_at hl 2 rfl) ?_
    obtain ⟨i13, hi13⟩ := hW.o6 hk_this
    replace hr := nnS hr
    obtain ⟨a50, hn50, hr⟩ := hr
    have hk_a50 : kd a50 = 106 := hT.1 123 _ _ hn50
    refine va_get (D := (dC, dI)) (ci := 6) (v := .ref (ad a50)) (C := RX6) (T := TX6) (N := 9) hx hb hts inX6 hown hK hP i13 hi13 rfl 3 (by decide) (hts (.fieldLink RX6 22 "SpellTurner$Scribe" "tally" "[I") ic_421) (fun _ h9 => h9) (congrArg (fun o => some (va_re ad o)) hn50) dX6_finish_50 ?_
    obtain ⟨i14, hi14⟩ := hW.o6 hk_this
    refine va_put (D := (dC, dI)) (ci := 6) (v := .ref (ad a50)) (ty := (.array .int)) (C := RX6) (T := TX6) (N := 9) hx hb hts inX6 tyX6 tyX6_ok nmX6 hown hK hP hD hS i14 hi14 rfl 2 (by decide) (hts (.fieldLink RX6 18 "SpellTurner$Scribe" "toldTally" "[I") ic_127) (fun _ h9 => h9) rfl (by decide +kernel) rfl rfl (Nat.le_of_ble_eq_true rfl) dX6_finish_53 (fun H locs hP2 hD2 hS => ?_)
    obtain ⟨m53, w15, em53, hP, hD, hW⟩ : ∃ (z : Nat → Option Nat) (w : va_W), z = (va_up (P 122) this (some a50)) ∧ va_P (dC, dI) vwCl w H ∧ va_D A w ∧ LW w ad kk kd ln (va_up (va_up G 126 c12_G126) 128 c12_G128) (va_up (va_up (va_up P 120 m34) 121 m39) 122 z) U (va_up V 0 c12_V0) X O := ⟨_, _, rfl, hP2, hD2, hW.setP hD hi14 (by rw [hk_this]; decide) 122 (some a50) (by rw [hk_this]; rfl)⟩
    replace hT : TYP kd (va_up (va_up (va_up P 120 m34) 121 m39) 122 m53) O c12_V0 cnt := by rw [em53]; exact hT.setP 122 this a50 hk_a50
    replace hr := vlS hr m53 em53
    clear em53
    refine lv_aload_n hx hb dX6_finish_56 rfl (lv_at hl 2 rfl) ?_
    refine lv_aload hx hb dX6_finish_57 (lv_at hl 0 rfl) ?_
    obtain ⟨i16, hi16⟩ := hW.o6 hk_this
    refine va_put (D := (dC, dI)) (ci := 6) (v := .ref (ad a43)) (ty := (.array .int)) (C := RX6) (T := TX6) (N := 9) hx hb hts inX6 tyX6 tyX6_ok nmX6 hown hK hP hD hS i16 hi16 rfl 3 (by decide) (hts (.fieldLink RX6 22 "SpellTurner$Scribe" "tally" "[I") ic_421) (fun _ h9 => h9) rfl (by decide +kernel) rfl rfl (Nat.le_of_ble_eq_true rfl) dX6_finish_59 (fun H locs hP2 hD2 hS => ?_)
    obtain ⟨m59, w17, em59, hP, hD, hW⟩ : ∃ (z : Nat → Option Nat) (w : va_W), z = (va_up (P 123) this (some a43)) ∧ va_P (dC, dI) vwCl w H ∧ va_D A w ∧ LW w ad kk kd ln (va_up (va_up G 126 c12_G126) 128 c12_G128) (va_up (va_up (va_up (va_up P 120 m34) 121 m39) 122 m53) 123 z) U (va_up V 0 c12_V0) X O := ⟨_, _, rfl, hP2, hD2, hW.setP hD hi16 (by rw [hk_this]; decide) 123 (some a43) (by rw [hk_this]; rfl)⟩
    replace hT : TYP kd (va_up (va_up (va_up (va_up P 120 m34) 121 m39) 122 m53) 123 m59) O c12_V0 cnt := by rw [em59]; exact hT.setP 123 this a43 hk_a43
    replace hr := vlS hr m59 em59
    clear em59
    refine lv_aload_n hx hb dX6_finish_62 rfl (lv_at hl 2 rfl) ?_
    refine lv_iconst (v := 1) hx hb dX6_finish_63 (by decide +kernel) ?_
    obtain ⟨i18, hi18⟩ := hW.o6 hk_this
    refine va_put (D := (dC, dI)) (ci := 6) (v := .int 1) (ty := .boolean) (C := RX6) (T := TX6) (N := 9) hx hb hts inX6 tyX6 tyX6_ok nmX6 hown hK hP hD hS i18 hi18 rfl 4 (by decide) (hts (.fieldLink RX6 25 "SpellTurner$Scribe" "hasTold" "Z") ic_126) (fun _ h9 => h9) rfl (by decide +kernel) rfl rfl (Nat.le_of_ble_eq_true rfl) dX6_finish_64 (fun H locs hP2 hD2 hS => ?_)
    obtain ⟨m64, w19, em64, hP, hD, hW⟩ : ∃ (z : Nat → Int32) (w : va_W), z = (va_up (G 124) this 1) ∧ va_P (dC, dI) vwCl w H ∧ va_D A w ∧ LW w ad kk kd ln (va_up (va_up (va_up G 126 c12_G126) 128 c12_G128) 124 z) (va_up (va_up (va_up (va_up P 120 m34) 121 m39) 122 m53) 123 m59) U (va_up V 0 c12_V0) X O := ⟨_, _, rfl, hP2, hD2, hW.setG hD hi18 (by rw [hk_this]; decide) 124 1 (by rw [hk_this]; rfl)⟩
    replace hr := vlS hr m64 em64
    clear em64
    refine lv_aload_n hx hb dX6_finish_67 rfl (lv_at hl 2 rfl) ?_
    refine lv_aload_n hx hb dX6_finish_68 rfl (lv_at hl 2 rfl) ?_
    obtain ⟨i20, hi20⟩ := hW.o6 hk_this
    refine va_get (D := (dC, dI)) (ci := 6) (v := .int (c12_G126 this)) (C := RX6) (T := TX6) (N := 9) hx hb hts inX6 hown hK hP i20 hi20 rfl 6 (by decide) (hts (.fieldLink RX6 33 "SpellTurner$Scribe" "size" "I") ic_423) (fun _ h9 => h9) rfl dX6_finish_69 ?_
    refine lv_topi (fun x72 ex72 => ?_)
    replace hr := vlS hr x72 ex72
    clear ex72
    obtain ⟨i21, hi21⟩ := hW.o6 hk_this
    refine va_put (D := (dC, dI)) (ci := 6) (v := .int x72) (ty := .int) (C := RX6) (T := TX6) (N := 9) hx hb hts inX6 tyX6 tyX6_ok nmX6 hown hK hP hD hS i21 hi21 rfl 5 (by decide) (hts (.fieldLink RX6 29 "SpellTurner$Scribe" "toldSize" "I") ic_181) (fun _ h9 => h9) rfl (by decide +kernel) rfl rfl (Nat.le_of_ble_eq_true rfl) dX6_finish_72 (fun H locs hP2 hD2 hS => ?_)
    obtain ⟨m72, w22, em72, hP, hD, hW⟩ : ∃ (z : Nat → Int32) (w : va_W), z = (va_up (G 125) this x72) ∧ va_P (dC, dI) vwCl w H ∧ va_D A w ∧ LW w ad kk kd ln (va_up (va_up (va_up (va_up G 126 c12_G126) 128 c12_G128) 124 m64) 125 z) (va_up (va_up (va_up (va_up P 120 m34) 121 m39) 122 m53) 123 m59) U (va_up V 0 c12_V0) X O := ⟨_, _, rfl, hP2, hD2, hW.setG hD hi21 (by rw [hk_this]; decide) 125 x72 (by rw [hk_this]; rfl)⟩
    replace hr := vlS hr m72 em72
    clear em72
    refine lv_aload_n hx hb dX6_finish_75 rfl (lv_at hl 2 rfl) ?_
    obtain ⟨i23, hi23⟩ := hW.o6 hk_this
    refine va_get (D := (dC, dI)) (ci := 6) (v := .int (c12_G126 this)) (C := RX6) (T := TX6) (N := 9) hx hb hts inX6 hown hK hP i23 hi23 rfl 6 (by decide) (hts (.fieldLink RX6 33 "SpellTurner$Scribe" "size" "I") ic_423) (fun _ h9 => h9) rfl dX6_finish_76 ?_
    have eG : (va_up (va_up (va_up (va_up G 126 c12_G126) 128 c12_G128) 124 m64) 125 m72) = (va_up (va_up (va_up (va_up G 124 m64) 125 m72) 126 c12_G126) 128 c12_G128) := by
      funext k
      by_cases h124 : k = 124
      · subst h124; rfl
      by_cases h125 : k = 125
      · subst h125; rfl
      by_cases h126 : k = 126
      · subst h126; rfl
      by_cases h128 : k = 128
      · subst h128; rfl
      · simp only [va_up, h124, h125, h126, h128, if_false]
    rw [eG] at hW
    clear eG
    exact K 79 ls _ _ _ _ _ _ _ _ _ _ w22 H _ hr dX6_finish_79 hW hT hP hD hS
  · replace hr := iteT c19 hr
    refine lv_iconst (v := (-1)) hx hb dX6_finish_22 (by decide +kernel) ?_
    have eG : (va_up (va_up G 126 c12_G126) 128 c12_G128) = (va_up (va_up (va_up (va_up G 124 (G 124)) 125 (G 125)) 126 c12_G126) 128 c12_G128) := by
      funext k
      by_cases h124 : k = 124
      · subst h124; rfl
      by_cases h125 : k = 125
      · subst h125; rfl
      by_cases h126 : k = 126
      · subst h126; rfl
      by_cases h128 : k = 128
      · subst h128; rfl
      · simp only [va_up, h124, h125, h126, h128, if_false]
    rw [eG] at hW
    clear eG
    have eP : P = (va_up (va_up (va_up (va_up P 120 (P 120)) 121 (P 121)) 122 (P 122)) 123 (P 123)) := by
      funext k
      by_cases h120 : k = 120
      · subst h120; rfl
      by_cases h121 : k = 121
      · subst h121; rfl
      by_cases h122 : k = 122
      · subst h122; rfl
      by_cases h123 : k = 123
      · subst h123; rfl
      · simp only [va_up, h120, h121, h122, h123, if_false]
    rw [eP] at hW
    rw [eP] at hT
    clear eP
    exact K 23 ls _ _ _ _ _ _ _ _ _ _ w4 H _ hr dX6_finish_23 hW hT hP hD hS
set_option maxHeartbeats 4000000 in
set_option maxRecDepth 100000 in
theorem m_X6_finish (l : Launch) (dC : Nat → ClassId) (dI : Nat → Nat → Nat) (kk : Nat → ClassId) (ad : Nat → Nat) (sz : Nat) (ws : va_W) (G : Nat → Nat → Int32) (P : Nat → Nat → Option Nat) (U : Nat → Nat → Int64) (V : Nat → Nat → Nat → Int32) (X : Nat → Nat → Nat → Int64) (O : Nat → Nat → Nat → Option Nat) (kd : Nat → Nat) (ln : Nat → Nat) (cnt : Nat) (this : Nat) (p0 : Nat) (p1 : Int32) (hk_this : kd this = 7) (hk_p0 : kd p0 = 100) (hW : LW ws ad kk kd ln G P U V X O) (hT : TYP kd P O (V 0) cnt) (r : Int32) (c_G124 : Nat → Int32) (c_G125 : Nat → Int32) (c_G126 : Nat → Int32) (c_G128 : Nat → Int32) (c_P120 : Nat → Option Nat) (c_P121 : Nat → Option Nat) (c_P122 : Nat → Option Nat) (c_P123 : Nat → Option Nat) (c_V0 : Nat → Nat → Int32) (hr : f_X6_finish G P U V X O kd ln cnt this p0 p1 = some (r, c_G124, c_G125, c_G126, c_G128, c_P120, c_P121, c_P122, c_P123, c_V0)) : Met l yX6_finish vmX6_finish ({ frames := 4, cells := 0, slots := 0, locals := 143 } : Room) (va_Pc [.ref (ad this), .ref (ad p0), .int p1] (fun U => U.heap.size = sz ∧ va_P (dC, dI) vwCl ws U.heap ∧ va_K (dC, dI) vwCl (cT kk) U ∧ va_D (fun _ => True) ws)) (va_Qi (fun (rz : Int32) (w : va_W) => rz = r ∧ LW w ad kk kd ln (va_up (va_up (va_up (va_up G 124 c_G124) 125 c_G125) 126 c_G126) 128 c_G128) (va_up (va_up (va_up (va_up P 120 c_P120) 121 c_P121) 122 c_P122) 123 c_P123) U (va_up V 0 c_V0) X O ∧ TYP kd (va_up (va_up (va_up (va_up P 120 c_P120) 121 c_P121) 122 c_P122) 123 c_P123) O c_V0 cnt) (fun w t => va_P (dC, dI) vwCl w t.heap ∧ va_K (dC, dI) vwCl (cT kk) t ∧ va_D (va_A ws sz) w) (va_A ws sz)) 0 0 (va_A ws sz) := by
  refine Met.ofW (cc := cX6_finish) (maxL := 5) (ret := (some .int)) (by decide) rfl ?_
  intro p e s m args below meth c s₁ B hml hv
  obtain ⟨rfl, hsz, hP, hK, hD0⟩ := hv
  have hx := B.exec
  have hb := B.bytes
  have hrt := B.returns
  have hts := atoms_spec (ws := vmX6_finish) B.pre
  have hown : s.vm.findClass RX6 = some m.cls := findClass_of_methodNamed B.named
  subst hsz
  have hD := hD0.self (sz := s.heap.size)
  generalize hAe : va_A ws s.heap.size = A at hD ⊢
  have hA : ∀ q : Nat, s.heap.size ≤ q → A q := fun q h => by rw [← hAe]; exact Or.inr h
  have hS : va_S A s.heap s.heap [] := va_S.rf
  have hl := lv_entry ([.ref (ad this), .ref (ad p0), .int p1]) (n := 5) (Nat.le_of_ble_eq_true rfl)
  rw [lg_entry_eq]
  generalize (lg_sl ([.ref (ad this), .ref (ad p0), .int p1]) ++ List.replicate (5 - (lg_sl ([.ref (ad this), .ref (ad p0), .int p1])).length) Slot.unset).toArray = ls at hl ⊢
  exact bm_X6_finish this p0 p1 hk_this hk_p0 r c_G124 c_G125 c_G126 c_G128 c_P120 c_P121 c_P122 c_P123 c_V0 hr hx hb hml hown hts hA hK hW hT hP hD hS hl (fun pc ls rz c_G124z c_G125z c_G126z c_G128z c_P120z c_P121z c_P122z c_P123z c_V0z ws H locs he hd hW hT hP hD hS => by cases he; exact W.iret (v := r) hx hb hrt (fun t ht hW9 => ⟨⟨r, ws, rfl, ⟨rfl, hW, hT⟩, by rw [ht]; exact hP, va_K.moved hW9.alike hK, hD⟩, hS.F ht⟩) hS.2.2 hd)
set_option maxHeartbeats 4000000 in
set_option maxRecDepth 100000 in
theorem bm_X8_begin {p : Program} {l : Launch} {e : Env} {s : State} {m : MethodId} {args : Array Value} {below : List Frame} {meth : Method} {c : Code} {Q : State → Prop} {A : Nat → Prop} {dC : Nat → ClassId} {dI : Nat → Nat → Nat} {kk : Nat → ClassId} {ad : Nat → Nat} {ws : va_W} {G : Nat → Nat → Int32} {P : Nat → Nat → Option Nat} {U : Nat → Nat → Int64} {V : Nat → Nat → Nat → Int32} {X : Nat → Nat → Nat → Int64} {O : Nat → Nat → Nat → Option Nat} {kd : Nat → Nat} {ln : Nat → Nat} {cnt : Nat} {H : Heap} {locs : List Loc} {ls : Array Slot} (this : Nat) (p0 : Nat) (p1 : Int32) (hk_this : kd this = 9) (hk_p0 : kd p0 = 100) (c_G162 : Nat → Int32) (c_G165 : Nat → Int32) (c_G166 : Nat → Int32) (c_G167 : Nat → Int32) (c_P164 : Nat → Option Nat) (hr : f_X8_begin G P U V X O kd ln cnt this p0 p1 = some (c_G162, c_G165, c_G166, c_G167, c_P164)) (hx : p.tables.exec = Jvm.exec) (hb : c.code = cX8_begin) (hml : c.maxLocals = 3) (hown : s.vm.findClass RX8 = some m.cls) (hts : ∀ w ∈ vmX8_begin, w.before args s = true) (hA : ∀ q : Nat, s.heap.size ≤ q → A q) (hK : va_K (dC, dI) vwCl (cT kk) s) (hW : LW ws ad kk kd ln G P U V X O) (hT : TYP kd P O (V 0) cnt) (hP : va_P (dC, dI) vwCl ws H) (hD : va_D A ws) (hS : va_S A s.heap H locs) (hl : lv_has ls 3 [(0, .ref (ad this)), (1, .ref (ad p0)), (2, .int p1)])
    (K : ∀ (pc : Nat) (ls : Array Slot) (c_G162z : Nat → Int32) (c_G165z : Nat → Int32) (c_G166z : Nat → Int32) (c_G167z : Nat → Int32) (c_P164z : Nat → Option Nat) (ws : va_W) (H : Heap) (locs : List Loc), some (c_G162z, c_G165z, c_G166z, c_G167z, c_P164z) = some (c_G162, c_G165, c_G166, c_G167, c_P164) → decode cX8_begin pc = .ok (.return_, 1) → LW ws ad kk kd ln (va_up (va_up (va_up (va_up G 162 c_G162z) 165 c_G165z) 166 c_G166z) 167 c_G167z) (va_up P 164 c_P164z) U V X O → TYP kd (va_up P 164 c_P164z) O (V 0) cnt → va_P (dC, dI) vwCl ws H → va_D A ws → va_S A s.heap H locs → W p l e ({ frames := 3, cells := 0, slots := 0, locals := 90 } : Room) s m args below meth c H locs 0 0 Q (F0 m pc ls [])) : W p l e ({ frames := 3, cells := 0, slots := 0, locals := 90 } : Room) s m args below meth c H locs 0 0 Q (F0 m 0 ls []) := by
  unfold f_X8_begin at hr
  refine lv_aload_n hx hb dX8_begin_0 rfl (lv_at hl 0 rfl) ?_
  refine lv_aload_n hx hb dX8_begin_1 rfl (lv_at hl 1 rfl) ?_
  obtain ⟨i1, hi1⟩ := hW.o8 hk_this
  refine va_put (D := (dC, dI)) (ci := 8) (v := .ref (ad p0)) (ty := (.array .byte)) (C := RX8) (T := TX8) (N := 8) hx hb hts inX8 tyX8 tyX8_ok nmX8 hown hK hP hD hS i1 hi1 rfl 4 (by decide) (hts (.fieldLink RX8 25 "SpellTurner$TextWords" "text" "[B") ic_447) (fun _ h9 => h9) rfl (by decide +kernel) rfl rfl (Nat.le_of_ble_eq_true rfl) dX8_begin_2 (fun H locs hP2 hD2 hS => ?_)
  obtain ⟨m2, w2, em2, hP, hD, hW⟩ : ∃ (z : Nat → Option Nat) (w : va_W), z = (va_up (P 164) this (some p0)) ∧ va_P (dC, dI) vwCl w H ∧ va_D A w ∧ LW w ad kk kd ln G (va_up P 164 z) U V X O := ⟨_, _, rfl, hP2, hD2, hW.setP hD hi1 (by rw [hk_this]; decide) 164 (some p0) (by rw [hk_this]; rfl)⟩
  replace hT : TYP kd (va_up P 164 m2) O (V 0) cnt := by rw [em2]; exact hT.setP 164 this p0 hk_p0
  replace hr := vlS hr m2 em2
  clear em2
  refine lv_aload_n hx hb dX8_begin_5 rfl (lv_at hl 0 rfl) ?_
  refine lv_iload_n hx hb dX8_begin_6 rfl (lv_at hl 2 rfl) ?_
  refine lv_aload_n hx hb dX8_begin_7 rfl (lv_at hl 1 rfl) ?_
  obtain ⟨i3, hi3⟩ := hW.v0 hk_p0
  refine va_alen (v := (Int32.ofNat (ln p0))) hx hb hK hP i3 0 hi3 rfl rfl dX8_begin_8 ?_
  refine va_mmin hx hb (by rw [hml]; exact hl.1.symm) hown (hts (.methodLink RX8 38 Lib.Math.min.name) ic_448) (hts (.static Lib.Math.min.name) ic_197) (hts (.initialized "java/lang/Math") ic_198) (hts (.code Lib.Math.min.name Lib.Math.min.code 2 (some .int)) ic_199) (Nat.le_of_ble_eq_true rfl) (Nat.le_of_ble_eq_true rfl) (Nat.le_of_ble_eq_true rfl) (Nat.le_of_ble_eq_true rfl) dX8_begin_9 ?_
  refine lv_topi (fun x12 ex12 => ?_)
  replace hr := vlS hr x12 ex12
  clear ex12
  obtain ⟨i4, hi4⟩ := hW.o8 hk_this
  refine va_put (D := (dC, dI)) (ci := 8) (v := .int x12) (ty := .int) (C := RX8) (T := TX8) (N := 8) hx hb hts inX8 tyX8 tyX8_ok nmX8 hown hK hP hD hS i4 hi4 rfl 5 (by decide) (hts (.fieldLink RX8 29 "SpellTurner$TextWords" "size" "I") ic_449) (fun _ h9 => h9) rfl (by decide +kernel) rfl rfl (Nat.le_of_ble_eq_true rfl) dX8_begin_12 (fun H locs hP2 hD2 hS => ?_)
  obtain ⟨m12, w5, em12, hP, hD, hW⟩ : ∃ (z : Nat → Int32) (w : va_W), z = (va_up (G 165) this x12) ∧ va_P (dC, dI) vwCl w H ∧ va_D A w ∧ LW w ad kk kd ln (va_up G 165 z) (va_up P 164 m2) U V X O := ⟨_, _, rfl, hP2, hD2, hW.setG hD hi4 (by rw [hk_this]; decide) 165 x12 (by rw [hk_this]; rfl)⟩
  replace hr := vlS hr m12 em12
  clear em12
  refine lv_aload_n hx hb dX8_begin_15 rfl (lv_at hl 0 rfl) ?_
  refine lv_iconst (v := 0) hx hb dX8_begin_16 (by decide +kernel) ?_
  obtain ⟨i6, hi6⟩ := hW.o8 hk_this
  refine va_put (D := (dC, dI)) (ci := 8) (v := .int 0) (ty := .int) (C := RX8) (T := TX8) (N := 8) hx hb hts inX8 tyX8 tyX8_ok nmX8 hown hK hP hD hS i6 hi6 rfl 6 (by decide) (hts (.fieldLink RX8 32 "SpellTurner$TextWords" "at" "I") ic_450) (fun _ h9 => h9) rfl (by decide +kernel) rfl rfl (Nat.le_of_ble_eq_true rfl) dX8_begin_17 (fun H locs hP2 hD2 hS => ?_)
  obtain ⟨m17, w7, em17, hP, hD, hW⟩ : ∃ (z : Nat → Int32) (w : va_W), z = (va_up (G 166) this 0) ∧ va_P (dC, dI) vwCl w H ∧ va_D A w ∧ LW w ad kk kd ln (va_up (va_up G 165 m12) 166 z) (va_up P 164 m2) U V X O := ⟨_, _, rfl, hP2, hD2, hW.setG hD hi6 (by rw [hk_this]; decide) 166 0 (by rw [hk_this]; rfl)⟩
  replace hr := vlS hr m17 em17
  clear em17
  refine lv_aload_n hx hb dX8_begin_20 rfl (lv_at hl 0 rfl) ?_
  refine lv_iconst (v := 0) hx hb dX8_begin_21 (by decide +kernel) ?_
  obtain ⟨i8, hi8⟩ := hW.o8 hk_this
  refine va_put (D := (dC, dI)) (ci := 8) (v := .int 0) (ty := .int) (C := RX8) (T := TX8) (N := 8) hx hb hts inX8 tyX8 tyX8_ok nmX8 hown hK hP hD hS i8 hi8 rfl 2 (by decide) (hts (.fieldLink RX8 18 "SpellTurner$TextWords" "lineNumber" "I") ic_451) (fun _ h9 => h9) rfl (by decide +kernel) rfl rfl (Nat.le_of_ble_eq_true rfl) dX8_begin_22 (fun H locs hP2 hD2 hS => ?_)
  obtain ⟨m22, w9, em22, hP, hD, hW⟩ : ∃ (z : Nat → Int32) (w : va_W), z = (va_up (G 162) this 0) ∧ va_P (dC, dI) vwCl w H ∧ va_D A w ∧ LW w ad kk kd ln (va_up (va_up (va_up G 165 m12) 166 m17) 162 z) (va_up P 164 m2) U V X O := ⟨_, _, rfl, hP2, hD2, hW.setG hD hi8 (by rw [hk_this]; decide) 162 0 (by rw [hk_this]; rfl)⟩
  replace hr := vlS hr m22 em22
  clear em22
  refine lv_aload_n hx hb dX8_begin_25 rfl (lv_at hl 0 rfl) ?_
  refine lv_iconst (v := 0) hx hb dX8_begin_26 (by decide +kernel) ?_
  obtain ⟨i10, hi10⟩ := hW.o8 hk_this
  refine va_put (D := (dC, dI)) (ci := 8) (v := .int 0) (ty := .boolean) (C := RX8) (T := TX8) (N := 8) hx hb hts inX8 tyX8 tyX8_ok nmX8 hown hK hP hD hS i10 hi10 rfl 7 (by decide) (hts (.fieldLink RX8 35 "SpellTurner$TextWords" "quoted" "Z") ic_452) (fun _ h9 => h9) rfl (by decide +kernel) rfl rfl (Nat.le_of_ble_eq_true rfl) dX8_begin_27 (fun H locs hP2 hD2 hS => ?_)
  obtain ⟨m27, w11, em27, hP, hD, hW⟩ : ∃ (z : Nat → Int32) (w : va_W), z = (va_up (G 167) this 0) ∧ va_P (dC, dI) vwCl w H ∧ va_D A w ∧ LW w ad kk kd ln (va_up (va_up (va_up (va_up G 165 m12) 166 m17) 162 m22) 167 z) (va_up P 164 m2) U V X O := ⟨_, _, rfl, hP2, hD2, hW.setG hD hi10 (by rw [hk_this]; decide) 167 0 (by rw [hk_this]; rfl)⟩
  replace hr := vlS hr m27 em27
  clear em27
  have eG : (va_up (va_up (va_up (va_up G 165 m12) 166 m17) 162 m22) 167 m27) = (va_up (va_up (va_up (va_up G 162 m22) 165 m12) 166 m17) 167 m27) := by
    funext k
    by_cases h162 : k = 162
    · subst h162; rfl
    by_cases h165 : k = 165
    · subst h165; rfl
    by_cases h166 : k = 166
    · subst h166; rfl
    by_cases h167 : k = 167
    · subst h167; rfl
    · simp only [va_up, h162, h165, h166, h167, if_false]
  rw [eG] at hW
  clear eG
  exact K 30 ls _ _ _ _ _ w11 H _ hr dX8_begin_30 hW hT hP hD hS
set_option maxHeartbeats 4000000 in
set_option maxRecDepth 100000 in
theorem m_X8_begin (l : Launch) (dC : Nat → ClassId) (dI : Nat → Nat → Nat) (kk : Nat → ClassId) (ad : Nat → Nat) (sz : Nat) (ws : va_W) (G : Nat → Nat → Int32) (P : Nat → Nat → Option Nat) (U : Nat → Nat → Int64) (V : Nat → Nat → Nat → Int32) (X : Nat → Nat → Nat → Int64) (O : Nat → Nat → Nat → Option Nat) (kd : Nat → Nat) (ln : Nat → Nat) (cnt : Nat) (this : Nat) (p0 : Nat) (p1 : Int32) (hk_this : kd this = 9) (hk_p0 : kd p0 = 100) (hW : LW ws ad kk kd ln G P U V X O) (hT : TYP kd P O (V 0) cnt) (c_G162 : Nat → Int32) (c_G165 : Nat → Int32) (c_G166 : Nat → Int32) (c_G167 : Nat → Int32) (c_P164 : Nat → Option Nat) (hr : f_X8_begin G P U V X O kd ln cnt this p0 p1 = some (c_G162, c_G165, c_G166, c_G167, c_P164)) : Met l yX8_begin vmX8_begin ({ frames := 3, cells := 0, slots := 0, locals := 90 } : Room) (va_Pc [.ref (ad this), .ref (ad p0), .int p1] (fun U => U.heap.size = sz ∧ va_P (dC, dI) vwCl ws U.heap ∧ va_K (dC, dI) vwCl (cT kk) U ∧ va_D (fun _ => True) ws)) (va_Qv (fun w => LW w ad kk kd ln (va_up (va_up (va_up (va_up G 162 c_G162) 165 c_G165) 166 c_G166) 167 c_G167) (va_up P 164 c_P164) U V X O ∧ TYP kd (va_up P 164 c_P164) O (V 0) cnt) (fun w t => va_P (dC, dI) vwCl w t.heap ∧ va_K (dC, dI) vwCl (cT kk) t ∧ va_D (va_A ws sz) w) (va_A ws sz)) 0 0 (va_A ws sz) := by
  refine Met.ofW (cc := cX8_begin) (maxL := 3) (ret := none) (by decide) rfl ?_
  intro p e s m args below meth c s₁ B hml hv
  obtain ⟨rfl, hsz, hP, hK, hD0⟩ := hv
  have hx := B.exec
  have hb := B.bytes
  have hrt := B.returns
  have hts := atoms_spec (ws := vmX8_begin) B.pre
  have hown : s.vm.findClass RX8 = some m.cls := findClass_of_methodNamed B.named
  subst hsz
  have hD := hD0.self (sz := s.heap.size)
  generalize hAe : va_A ws s.heap.size = A at hD ⊢
  have hA : ∀ q : Nat, s.heap.size ≤ q → A q := fun q h => by rw [← hAe]; exact Or.inr h
  have hS : va_S A s.heap s.heap [] := va_S.rf
  have hl := lv_entry ([.ref (ad this), .ref (ad p0), .int p1]) (n := 3) (Nat.le_of_ble_eq_true rfl)
  rw [lg_entry_eq]
  generalize (lg_sl ([.ref (ad this), .ref (ad p0), .int p1]) ++ List.replicate (3 - (lg_sl ([.ref (ad this), .ref (ad p0), .int p1])).length) Slot.unset).toArray = ls at hl ⊢
  exact bm_X8_begin this p0 p1 hk_this hk_p0 c_G162 c_G165 c_G166 c_G167 c_P164 hr hx hb hml hown hts hA hK hW hT hP hD hS hl (fun pc ls c_G162z c_G165z c_G166z c_G167z c_P164z ws H locs he hd hW hT hP hD hS => by cases he; exact W.vret hx hb hrt (fun t ht hW9 => ⟨⟨ws, rfl, ⟨hW, hT⟩, by rw [ht]; exact hP, va_K.moved hW9.alike hK, hD⟩, hS.F ht⟩) hS.2.2 hd)
set_option maxHeartbeats 4000000 in
set_option maxRecDepth 100000 in
theorem bm_X8_isLetter {p : Program} {l : Launch} {e : Env} {s : State} {m : MethodId} {args : Array Value} {below : List Frame} {meth : Method} {c : Code} {Q : State → Prop} {A : Nat → Prop} {dC : Nat → ClassId} {dI : Nat → Nat → Nat} {kk : Nat → ClassId} {ad : Nat → Nat} {ws : va_W} {G : Nat → Nat → Int32} {P : Nat → Nat → Option Nat} {U : Nat → Nat → Int64} {V : Nat → Nat → Nat → Int32} {X : Nat → Nat → Nat → Int64} {O : Nat → Nat → Nat → Option Nat} {kd : Nat → Nat} {ln : Nat → Nat} {cnt : Nat} {H : Heap} {locs : List Loc} {ls : Array Slot} (p0 : Int32) (r : Int32) (hr : f_X8_isLetter G P U V X O kd ln cnt p0 = some r) (hx : p.tables.exec = Jvm.exec) (hb : c.code = cX8_isLetter) (hml : c.maxLocals = 1) (hown : s.vm.findClass RX8 = some m.cls) (hts : ∀ w ∈ vmX8_isLetter, w.before args s = true) (hA : ∀ q : Nat, s.heap.size ≤ q → A q) (hK : va_K (dC, dI) vwCl (cT kk) s) (hW : LW ws ad kk kd ln G P U V X O) (hT : TYP kd P O (V 0) cnt) (hP : va_P (dC, dI) vwCl ws H) (hD : va_D A ws) (hS : va_S A s.heap H locs) (hl : lv_has ls 1 [(0, .int p0)])
    (K : ∀ (pc : Nat) (ls : Array Slot) (rz : Int32) (ws : va_W) (H : Heap) (locs : List Loc), some rz = some r → is01 rz → decode cX8_isLetter pc = .ok (.ireturn, 1) → LW ws ad kk kd ln G P U V X O → TYP kd P O (V 0) cnt → va_P (dC, dI) vwCl ws H → va_D A ws → va_S A s.heap H locs → W p l e ({ frames := 3, cells := 0, slots := 0, locals := 80 } : Room) s m args below meth c H locs 0 0 Q (F0 m pc ls [.int rz])) : W p l e ({ frames := 3, cells := 0, slots := 0, locals := 80 } : Room) s m args below meth c H locs 0 0 Q (F0 m 0 ls []) := by
  unfold f_X8_isLetter at hr
  refine lv_iload_n hx hb dX8_isLetter_0 rfl (lv_at hl 0 rfl) ?_
  replace hr := b1S hr
  obtain ⟨r1z, hc1, hr⟩ := hr
  have hFc := fr_all hD hS hA
  refine va_calli (va_runS (As := [.int p0]) (rest := []) ⟨hx, hb, hml, hown, hts⟩ (m_X10_isSmall l dC dI kk ad H.size ws G P U V X O kd ln cnt p0 hW hT r1z hc1) (va_cwS 1 hts gc_RX8_X10_isSmall_56 rfl rfl rfl (by decide +kernel) ⟨Nat.le_of_ble_eq_true rfl, Nat.le_of_ble_eq_true rfl⟩) ⟨fun a U g mk q => by obtain ⟨q0, q1, qP, qK, qD⟩ := q; exact ⟨q0, q1, qP, va_K.moved (u := U) (U := U.calling g mk a) (Vm.Alike.refl U.vm) qK, qD⟩, fun U hU hW => ⟨rfl, by rw [hU], by rw [hU]; exact hP, va_K.moved hW.alike hK, hD.weaken (fun _ _ _ _ => trivial)⟩⟩ rfl rfl hl.1 rfl (lv_room (Nat.le_of_ble_eq_true rfl)) dX8_isLetter_1 ⟨Nat.le_of_ble_eq_true rfl, Nat.le_of_ble_eq_true rfl⟩) hS (fun q _ h => hFc q h) hFc (fun r1 w1 t H1 locs ht hvm hw hB hz1 hk1 hS => ?_)
  obtain ⟨hw0, hW, hT⟩ := hw
  replace hw0 : r1 = r1z := hw0
  subst hw0
  obtain ⟨hP1, hK1, hD1⟩ := hB
  rw [ht] at hP1
  obtain ⟨hP, hD⟩ := jn_all (w1 := w1) hFc hP1 hD1
  replace hP : va_P (dC, dI) vwCl w1 H1 := hP
  replace hD : va_D A w1 := hD
  clear hFc hP1 hK1 hD1 hk1 hz1 ht hvm
  generalize H1 = H at hP hS ⊢
  replace hr := jnS hr
  obtain ⟨j19, hj19, hr⟩ := hr
  have Jj19 : ∀ (t19_0 : Int32) (ws : va_W) (H : Heap) (locs : List Loc) (ls : Array Slot), j19 t19_0 = some r → LW ws ad kk kd ln G P U V X O → TYP kd P O (V 0) cnt → va_P (dC, dI) vwCl ws H → va_D A ws → va_S A s.heap H locs → lv_has ls 1 [] → W p l e ({ frames := 3, cells := 0, slots := 0, locals := 80 } : Room) s m args below meth c H locs 0 0 Q (F0 m 19 ls [.int t19_0]) := by
    intro t19_0 ws H locs ls hr hW hT hP hD hS hl
    rw [hj19] at hr
    replace hr := iteS hr
    obtain ⟨hz19, hr⟩ := hr
    exact K 19 ls _ ws H _ hr hz19 dX8_isLetter_19 hW hT hP hD hS
  replace hr := jnS hr
  obtain ⟨j14, hj14, hr⟩ := hr
  have Jj14 : ∀ (ws : va_W) (H : Heap) (locs : List Loc) (ls : Array Slot), j14 () = some r → LW ws ad kk kd ln G P U V X O → TYP kd P O (V 0) cnt → va_P (dC, dI) vwCl ws H → va_D A ws → va_S A s.heap H locs → lv_has ls 1 [] → W p l e ({ frames := 3, cells := 0, slots := 0, locals := 80 } : Room) s m args below meth c H locs 0 0 Q (F0 m 14 ls []) := by
    intro ws H locs ls hr hW hT hP hD hS hl
    rw [hj14] at hr
    refine lv_iconst (v := 1) hx hb dX8_isLetter_14 (by decide +kernel) ?_
    refine lv_goto (tgt := 19) hx hb dX8_isLetter_15 (by decide) ?_
    exact Jj19 1 ws H _ ls hr hW hT hP hD hS (lv_sub hl [] rfl)
  refine lv_if_ne (tgt := 14) hx hb dX8_isLetter_4 (by decide) (fun c4 => ?_) (fun c4 => ?_)
  · replace hr := iteF c4 hr
    exact Jj14 w1 H _ ls hr hW hT hP hD hS (lv_sub hl [] rfl)
  · replace hr := iteT c4 hr
    refine lv_iload_n hx hb dX8_isLetter_7 rfl (lv_at hl 0 rfl) ?_
    replace hr := b1S hr
    obtain ⟨r8z, hc8, hr⟩ := hr
    have hFc := fr_all hD hS hA
    refine va_calli (va_runS (As := [.int p0]) (rest := []) ⟨hx, hb, hml, hown, hts⟩ (m_X10_isCapital l dC dI kk ad H.size w1 G P U V X O kd ln cnt p0 hW hT r8z hc8) (va_cwS 1 hts gc_RX8_X10_isCapital_51 rfl rfl rfl (by decide +kernel) ⟨Nat.le_of_ble_eq_true rfl, Nat.le_of_ble_eq_true rfl⟩) ⟨fun a U g mk q => by obtain ⟨q0, q1, qP, qK, qD⟩ := q; exact ⟨q0, q1, qP, va_K.moved (u := U) (U := U.calling g mk a) (Vm.Alike.refl U.vm) qK, qD⟩, fun U hU hW => ⟨rfl, by rw [hU], by rw [hU]; exact hP, va_K.moved hW.alike hK, hD.weaken (fun _ _ _ _ => trivial)⟩⟩ rfl rfl hl.1 rfl (lv_room (Nat.le_of_ble_eq_true rfl)) dX8_isLetter_8 ⟨Nat.le_of_ble_eq_true rfl, Nat.le_of_ble_eq_true rfl⟩) hS (fun q _ h => hFc q h) hFc (fun r8 w2 t H1 locs ht hvm hw hB hz1 hk1 hS => ?_)
    obtain ⟨hw0, hW, hT⟩ := hw
    replace hw0 : r8 = r8z := hw0
    subst hw0
    obtain ⟨hP1, hK1, hD1⟩ := hB
    rw [ht] at hP1
    obtain ⟨hP, hD⟩ := jn_all (w1 := w2) hFc hP1 hD1
    replace hP : va_P (dC, dI) vwCl w2 H1 := hP
    replace hD : va_D A w2 := hD
    clear hFc hP1 hK1 hD1 hk1 hz1 ht hvm
    generalize H1 = H at hP hS ⊢
    refine lv_if_eq (tgt := 18) hx hb dX8_isLetter_11 (by decide) (fun c11 => ?_) (fun c11 => ?_)
    · replace hr := iteT c11 hr
      refine lv_iconst (v := 0) hx hb dX8_isLetter_18 (by decide +kernel) ?_
      exact Jj19 0 w2 H _ ls hr hW hT hP hD hS (lv_sub hl [] rfl)
    · replace hr := iteF c11 hr
      exact Jj14 w2 H _ ls hr hW hT hP hD hS (lv_sub hl [] rfl)
set_option maxHeartbeats 4000000 in
set_option maxRecDepth 100000 in
theorem m_X8_isLetter (l : Launch) (dC : Nat → ClassId) (dI : Nat → Nat → Nat) (kk : Nat → ClassId) (ad : Nat → Nat) (sz : Nat) (ws : va_W) (G : Nat → Nat → Int32) (P : Nat → Nat → Option Nat) (U : Nat → Nat → Int64) (V : Nat → Nat → Nat → Int32) (X : Nat → Nat → Nat → Int64) (O : Nat → Nat → Nat → Option Nat) (kd : Nat → Nat) (ln : Nat → Nat) (cnt : Nat) (p0 : Int32) (hW : LW ws ad kk kd ln G P U V X O) (hT : TYP kd P O (V 0) cnt) (r : Int32) (hr : f_X8_isLetter G P U V X O kd ln cnt p0 = some r) : Met l yX8_isLetter vmX8_isLetter ({ frames := 3, cells := 0, slots := 0, locals := 80 } : Room) (va_Pc [.int p0] (fun U => U.heap.size = sz ∧ va_P (dC, dI) vwCl ws U.heap ∧ va_K (dC, dI) vwCl (cT kk) U ∧ va_D (fun _ => True) ws)) (va_Qi (fun (rz : Int32) (w : va_W) => rz = r ∧ LW w ad kk kd ln G P U V X O ∧ TYP kd P O (V 0) cnt) (fun w t => va_P (dC, dI) vwCl w t.heap ∧ va_K (dC, dI) vwCl (cT kk) t ∧ va_D (va_A ws sz) w) (va_A ws sz)) 0 0 (va_A ws sz) := by
  refine Met.ofW (cc := cX8_isLetter) (maxL := 1) (ret := (some .boolean)) (by decide) rfl ?_
  intro p e s m args below meth c s₁ B hml hv
  obtain ⟨rfl, hsz, hP, hK, hD0⟩ := hv
  have hx := B.exec
  have hb := B.bytes
  have hrt := B.returns
  have hts := atoms_spec (ws := vmX8_isLetter) B.pre
  have hown : s.vm.findClass RX8 = some m.cls := findClass_of_methodNamed B.named
  subst hsz
  have hD := hD0.self (sz := s.heap.size)
  generalize hAe : va_A ws s.heap.size = A at hD ⊢
  have hA : ∀ q : Nat, s.heap.size ≤ q → A q := fun q h => by rw [← hAe]; exact Or.inr h
  have hS : va_S A s.heap s.heap [] := va_S.rf
  have hl := lv_entry ([.int p0]) (n := 1) (Nat.le_of_ble_eq_true rfl)
  rw [lg_entry_eq]
  generalize (lg_sl ([.int p0]) ++ List.replicate (1 - (lg_sl ([.int p0])).length) Slot.unset).toArray = ls at hl ⊢
  exact bm_X8_isLetter p0 r hr hx hb hml hown hts hA hK hW hT hP hD hS hl (fun pc ls rz ws H locs he hz hd hW hT hP hD hS => by cases he; exact W.zret (v := r) hx hb hrt (z_nb hz) (fun t ht hW9 => ⟨⟨r, ws, rfl, ⟨rfl, hW, hT⟩, by rw [ht]; exact hP, va_K.moved hW9.alike hK, hD⟩, hS.F ht⟩) hS.2.2 hd)
set_option maxHeartbeats 4000000 in
set_option maxRecDepth 100000 in
theorem bm_X8_takeWord {p : Program} {l : Launch} {e : Env} {s : State} {m : MethodId} {args : Array Value} {below : List Frame} {meth : Method} {c : Code} {Q : State → Prop} {A : Nat → Prop} {dC : Nat → ClassId} {dI : Nat → Nat → Nat} {kk : Nat → ClassId} {ad : Nat → Nat} {ws : va_W} {G : Nat → Nat → Int32} {P : Nat → Nat → Option Nat} {U : Nat → Nat → Int64} {V : Nat → Nat → Nat → Int32} {X : Nat → Nat → Nat → Int64} {O : Nat → Nat → Nat → Option Nat} {kd : Nat → Nat} {ln : Nat → Nat} {cnt : Nat} {H : Heap} {locs : List Loc} {ls : Array Slot} (this : Nat) (hk_this : kd this = 9) (c_G160 : Nat → Int32) (c_G161 : Nat → Int32) (c_G163 : Nat → Int32) (c_G166 : Nat → Int32) (hr : f_X8_takeWord G P U V X O kd ln cnt this = some (c_G160, c_G161, c_G163, c_G166)) (hx : p.tables.exec = Jvm.exec) (hb : c.code = cX8_takeWord) (hml : c.maxLocals = 1) (hown : s.vm.findClass RX8 = some m.cls) (hts : ∀ w ∈ vmX8_takeWord, w.before args s = true) (hA : ∀ q : Nat, s.heap.size ≤ q → A q) (hK : va_K (dC, dI) vwCl (cT kk) s) (hW : LW ws ad kk kd ln G P U V X O) (hT : TYP kd P O (V 0) cnt) (hP : va_P (dC, dI) vwCl ws H) (hD : va_D A ws) (hS : va_S A s.heap H locs) (hl : lv_has ls 1 [(0, .ref (ad this))])
    (K : ∀ (pc : Nat) (ls : Array Slot) (c_G160z : Nat → Int32) (c_G161z : Nat → Int32) (c_G163z : Nat → Int32) (c_G166z : Nat → Int32) (ws : va_W) (H : Heap) (locs : List Loc), some (c_G160z, c_G161z, c_G163z, c_G166z) = some (c_G160, c_G161, c_G163, c_G166) → decode cX8_takeWord pc = .ok (.return_, 1) → LW ws ad kk kd ln (va_up (va_up (va_up (va_up G 160 c_G160z) 161 c_G161z) 163 c_G163z) 166 c_G166z) P U V X O → TYP kd P O (V 0) cnt → va_P (dC, dI) vwCl ws H → va_D A ws → va_S A s.heap H locs → W p l e ({ frames := 4, cells := 0, slots := 0, locals := 100 } : Room) s m args below meth c H locs 0 0 Q (F0 m pc ls [])) : W p l e ({ frames := 4, cells := 0, slots := 0, locals := 100 } : Room) s m args below meth c H locs 0 0 Q (F0 m 0 ls []) := by
  unfold f_X8_takeWord at hr
  refine lv_aload_n hx hb dX8_takeWord_0 rfl (lv_at hl 0 rfl) ?_
  refine lv_aload_n hx hb dX8_takeWord_1 rfl (lv_at hl 0 rfl) ?_
  obtain ⟨i1, hi1⟩ := hW.o8 hk_this
  refine va_get (D := (dC, dI)) (ci := 8) (v := .int ((G 166) this)) (C := RX8) (T := TX8) (N := 8) hx hb hts inX8 hown hK hP i1 hi1 rfl 6 (by decide) (hts (.fieldLink RX8 32 "SpellTurner$TextWords" "at" "I") ic_450) (fun _ h9 => h9) rfl dX8_takeWord_2 ?_
  refine lv_topi (fun x5 ex5 => ?_)
  replace hr := vlS hr x5 ex5
  clear ex5
  obtain ⟨i2, hi2⟩ := hW.o8 hk_this
  refine va_put (D := (dC, dI)) (ci := 8) (v := .int x5) (ty := .int) (C := RX8) (T := TX8) (N := 8) hx hb hts inX8 tyX8 tyX8_ok nmX8 hown hK hP hD hS i2 hi2 rfl 0 (by decide) (hts (.fieldLink RX8 9 "SpellTurner$TextWords" "start" "I") ic_458) (fun _ h9 => h9) rfl (by decide +kernel) rfl rfl (Nat.le_of_ble_eq_true rfl) dX8_takeWord_5 (fun H locs hP2 hD2 hS => ?_)
  obtain ⟨m5, w3, em5, hP, hD, hW⟩ : ∃ (z : Nat → Int32) (w : va_W), z = (va_up (G 160) this x5) ∧ va_P (dC, dI) vwCl w H ∧ va_D A w ∧ LW w ad kk kd ln (va_up G 160 z) P U V X O := ⟨_, _, rfl, hP2, hD2, hW.setG hD hi2 (by rw [hk_this]; decide) 160 x5 (by rw [hk_this]; rfl)⟩
  replace hr := vlS hr m5 em5
  clear em5
  refine lv_aload_n hx hb dX8_takeWord_8 rfl (lv_at hl 0 rfl) ?_
  refine lv_iconst (v := 0) hx hb dX8_takeWord_9 (by decide +kernel) ?_
  obtain ⟨i4, hi4⟩ := hW.o8 hk_this
  refine va_put (D := (dC, dI)) (ci := 8) (v := .int 0) (ty := .boolean) (C := RX8) (T := TX8) (N := 8) hx hb hts inX8 tyX8 tyX8_ok nmX8 hown hK hP hD hS i4 hi4 rfl 3 (by decide) (hts (.fieldLink RX8 21 "SpellTurner$TextWords" "isName" "Z") ic_459) (fun _ h9 => h9) rfl (by decide +kernel) rfl rfl (Nat.le_of_ble_eq_true rfl) dX8_takeWord_10 (fun H locs hP2 hD2 hS => ?_)
  obtain ⟨m10, w5, em10, hP, hD, hW⟩ : ∃ (z : Nat → Int32) (w : va_W), z = (va_up (G 163) this 0) ∧ va_P (dC, dI) vwCl w H ∧ va_D A w ∧ LW w ad kk kd ln (va_up (va_up G 160 m5) 163 z) P U V X O := ⟨_, _, rfl, hP2, hD2, hW.setG hD hi4 (by rw [hk_this]; decide) 163 0 (by rw [hk_this]; rfl)⟩
  replace hr := vlS hr m10 em10
  clear em10
  replace hr := jnS hr
  obtain ⟨k83, hk83, hr⟩ := hr
  have Jk83 : ∀ (c83_G163 : Nat → Int32) (c83_G166 : Nat → Int32) (ws : va_W) (H : Heap) (locs : List Loc) (ls : Array Slot), k83 c83_G163 c83_G166 = some (c_G160, c_G161, c_G163, c_G166) → LW ws ad kk kd ln (va_up (va_up (va_up G 160 m5) 163 c83_G163) 166 c83_G166) P U V X O → TYP kd P O (V 0) cnt → va_P (dC, dI) vwCl ws H → va_D A ws → va_S A s.heap H locs → lv_has ls 1 [(0, .ref (ad this))] → W p l e ({ frames := 4, cells := 0, slots := 0, locals := 100 } : Room) s m args below meth c H locs 0 0 Q (F0 m 83 ls []) := by
    intro c83_G163 c83_G166 ws H locs ls hr hW hT hP hD hS hl
    rw [hk83] at hr
    refine lv_aload_n hx hb dX8_takeWord_83 rfl (lv_at hl 0 rfl) ?_
    refine lv_aload_n hx hb dX8_takeWord_84 rfl (lv_at hl 0 rfl) ?_
    obtain ⟨i6, hi6⟩ := hW.o8 hk_this
    refine va_get (D := (dC, dI)) (ci := 8) (v := .int (c83_G166 this)) (C := RX8) (T := TX8) (N := 8) hx hb hts inX8 hown hK hP i6 hi6 rfl 6 (by decide) (hts (.fieldLink RX8 32 "SpellTurner$TextWords" "at" "I") ic_450) (fun _ h9 => h9) rfl dX8_takeWord_85 ?_
    refine lv_aload_n hx hb dX8_takeWord_88 rfl (lv_at hl 0 rfl) ?_
    obtain ⟨i7, hi7⟩ := hW.o8 hk_this
    refine va_get (D := (dC, dI)) (ci := 8) (v := .int (m5 this)) (C := RX8) (T := TX8) (N := 8) hx hb hts inX8 hown hK hP i7 hi7 rfl 0 (by decide) (hts (.fieldLink RX8 9 "SpellTurner$TextWords" "start" "I") ic_458) (fun _ h9 => h9) rfl dX8_takeWord_89 ?_
    refine lv_isub hx hb dX8_takeWord_92 ?_
    refine lv_topi (fun x93 ex93 => ?_)
    replace hr := vlS hr x93 ex93
    clear ex93
    obtain ⟨i8, hi8⟩ := hW.o8 hk_this
    refine va_put (D := (dC, dI)) (ci := 8) (v := .int x93) (ty := .int) (C := RX8) (T := TX8) (N := 8) hx hb hts inX8 tyX8 tyX8_ok nmX8 hown hK hP hD hS i8 hi8 rfl 1 (by decide) (hts (.fieldLink RX8 15 "SpellTurner$TextWords" "length" "I") ic_460) (fun _ h9 => h9) rfl (by decide +kernel) rfl rfl (Nat.le_of_ble_eq_true rfl) dX8_takeWord_93 (fun H locs hP2 hD2 hS => ?_)
    obtain ⟨m93, w9, em93, hP, hD, hW⟩ : ∃ (z : Nat → Int32) (w : va_W), z = (va_up (G 161) this x93) ∧ va_P (dC, dI) vwCl w H ∧ va_D A w ∧ LW w ad kk kd ln (va_up (va_up (va_up (va_up G 160 m5) 163 c83_G163) 166 c83_G166) 161 z) P U V X O := ⟨_, _, rfl, hP2, hD2, hW.setG hD hi8 (by rw [hk_this]; decide) 161 x93 (by rw [hk_this]; rfl)⟩
    replace hr := vlS hr m93 em93
    clear em93
    have eG : (va_up (va_up (va_up (va_up G 160 m5) 163 c83_G163) 166 c83_G166) 161 m93) = (va_up (va_up (va_up (va_up G 160 m5) 161 m93) 163 c83_G163) 166 c83_G166) := by
      funext k
      by_cases h160 : k = 160
      · subst h160; rfl
      by_cases h161 : k = 161
      · subst h161; rfl
      by_cases h163 : k = 163
      · subst h163; rfl
      by_cases h166 : k = 166
      · subst h166; rfl
      · simp only [va_up, h160, h161, h163, h166, if_false]
    rw [eG] at hW
    clear eG
    exact K 96 ls _ _ _ _ w9 H _ hr dX8_takeWord_96 hW hT hP hD hS
  have lp13 : ∀ (n13 : Nat), ∀ (d13_G163 : Nat → Int32) (d13_G166 : Nat → Int32) (ws : va_W) (H : Heap) (locs : List Loc) (ls : Array Slot), L_X8_takeWord_13 G P U V X O kd ln cnt this m5 k83 n13 d13_G163 d13_G166 = some (c_G160, c_G161, c_G163, c_G166) → LW ws ad kk kd ln (va_up (va_up (va_up G 160 m5) 163 d13_G163) 166 d13_G166) P U V X O → TYP kd P O (V 0) cnt → va_P (dC, dI) vwCl ws H → va_D A ws → va_S A s.heap H locs → lv_has ls 1 [(0, .ref (ad this))] → W p l e ({ frames := 4, cells := 0, slots := 0, locals := 100 } : Room) s m args below meth c H locs 0 0 Q (F0 m 13 ls []) := by
    intro n13
    induction n13 with
    | zero => intro d13_G163 d13_G166 ws H locs ls hr hW hT hP hD hS hl; exact nomatch (show none = some (c_G160, c_G161, c_G163, c_G166) from hr)
    | succ n13 ih13 =>
      intro d13_G163 d13_G166 ws H locs ls hr hW hT hP hD hS hl
      replace hr : B_X8_takeWord_13 G P U V X O kd ln cnt this m5 k83 (L_X8_takeWord_13 G P U V X O kd ln cnt this m5 k83 n13) d13_G163 d13_G166 = some (c_G160, c_G161, c_G163, c_G166) := hr
      unfold B_X8_takeWord_13 at hr
      refine lv_aload_n hx hb dX8_takeWord_13 rfl (lv_at hl 0 rfl) ?_
      obtain ⟨i10, hi10⟩ := hW.o8 hk_this
      refine va_get (D := (dC, dI)) (ci := 8) (v := .int (d13_G166 this)) (C := RX8) (T := TX8) (N := 8) hx hb hts inX8 hown hK hP i10 hi10 rfl 6 (by decide) (hts (.fieldLink RX8 32 "SpellTurner$TextWords" "at" "I") ic_450) (fun _ h9 => h9) rfl dX8_takeWord_14 ?_
      refine lv_aload_n hx hb dX8_takeWord_17 rfl (lv_at hl 0 rfl) ?_
      obtain ⟨i11, hi11⟩ := hW.o8 hk_this
      refine va_get (D := (dC, dI)) (ci := 8) (v := .int ((G 165) this)) (C := RX8) (T := TX8) (N := 8) hx hb hts inX8 hown hK hP i11 hi11 rfl 5 (by decide) (hts (.fieldLink RX8 29 "SpellTurner$TextWords" "size" "I") ic_449) (fun _ h9 => h9) rfl dX8_takeWord_18 ?_
      refine lv_icmp_ge (tgt := 83) hx hb dX8_takeWord_21 (by decide) (fun c21 => ?_) (fun c21 => ?_)
      · replace hr := iteT c21 hr
        exact Jk83 d13_G163 d13_G166 ws H _ ls hr hW hT hP hD hS (lv_sub hl [0] rfl)
      · replace hr := iteF c21 hr
        refine lv_aload_n hx hb dX8_takeWord_24 rfl (lv_at hl 0 rfl) ?_
        obtain ⟨i12, hi12⟩ := hW.o8 hk_this
        replace hr := nnS hr
        obtain ⟨a25, hn25, hr⟩ := hr
        have hk_a25 : kd a25 = 100 := hT.1 164 _ _ hn25
        refine va_get (D := (dC, dI)) (ci := 8) (v := .ref (ad a25)) (C := RX8) (T := TX8) (N := 8) hx hb hts inX8 hown hK hP i12 hi12 rfl 4 (by decide) (hts (.fieldLink RX8 25 "SpellTurner$TextWords" "text" "[B") ic_447) (fun _ h9 => h9) (congrArg (fun o => some (va_re ad o)) hn25) dX8_takeWord_25 ?_
        refine lv_aload_n hx hb dX8_takeWord_28 rfl (lv_at hl 0 rfl) ?_
        obtain ⟨i13, hi13⟩ := hW.o8 hk_this
        refine va_get (D := (dC, dI)) (ci := 8) (v := .int (d13_G166 this)) (C := RX8) (T := TX8) (N := 8) hx hb hts inX8 hown hK hP i13 hi13 rfl 6 (by decide) (hts (.fieldLink RX8 32 "SpellTurner$TextWords" "at" "I") ic_450) (fun _ h9 => h9) rfl dX8_takeWord_29 ?_
        obtain ⟨i14, hi14⟩ := hW.v0 hk_a25
        replace hr := iteS hr
        obtain ⟨hi32, hr⟩ := hr
        refine va_bald (f := ((V 0) a25)) hx hb hK hP i14 0 hi14 rfl (inbV hi32) dX8_takeWord_32 ?_
        replace hr := b1S hr
        obtain ⟨r33z, hc33, hr⟩ := hr
        have hFc := fr_all hD hS hA
        refine va_calli (va_runS (As := [.int (((V 0) a25) (Int32.toNatClampNeg (d13_G166 this)))]) (rest := []) ⟨hx, hb, hml, hown, hts⟩ (m_X8_isLetter l dC dI kk ad H.size ws (va_up (va_up (va_up G 160 m5) 163 d13_G163) 166 d13_G166) P U V X O kd ln cnt (((V 0) a25) (Int32.toNatClampNeg (d13_G166 this))) hW hT r33z hc33) (va_cwS 1 hts gc_RX8_X8_isLetter_44 rfl rfl rfl (by decide +kernel) ⟨Nat.le_of_ble_eq_true rfl, Nat.le_of_ble_eq_true rfl⟩) ⟨fun a U g mk q => by obtain ⟨q0, q1, qP, qK, qD⟩ := q; exact ⟨q0, q1, qP, va_K.moved (u := U) (U := U.calling g mk a) (Vm.Alike.refl U.vm) qK, qD⟩, fun U hU hW => ⟨rfl, by rw [hU], by rw [hU]; exact hP, va_K.moved hW.alike hK, hD.weaken (fun _ _ _ _ => trivial)⟩⟩ rfl rfl hl.1 rfl (lv_room (Nat.le_of_ble_eq_true rfl)) dX8_takeWord_33 ⟨Nat.le_of_ble_eq_true rfl, Nat.le_of_ble_eq_true rfl⟩) hS (fun q _ h => hFc q h) hFc (fun r33 w15 t H1 locs ht hvm hw hB hz1 hk1 hS => ?_)
        obtain ⟨hw0, hW, hT⟩ := hw
        replace hw0 : r33 = r33z := hw0
        subst hw0
        obtain ⟨hP1, hK1, hD1⟩ := hB
        rw [ht] at hP1
        obtain ⟨hP, hD⟩ := jn_all (w1 := w15) hFc hP1 hD1
        replace hP : va_P (dC, dI) vwCl w15 H1 := hP
        replace hD : va_D A w15 := hD
        clear hFc hP1 hK1 hD1 hk1 hz1 ht hvm
        generalize H1 = H at hP hS ⊢
        refine lv_if_eq (tgt := 83) hx hb dX8_takeWord_36 (by decide) (fun c36 => ?_) (fun c36 => ?_)
        · replace hr := iteT c36 hr
          exact Jk83 d13_G163 d13_G166 w15 H _ ls hr hW hT hP hD hS (lv_sub hl [0] rfl)
        · replace hr := iteF c36 hr
          refine lv_aload_n hx hb dX8_takeWord_39 rfl (lv_at hl 0 rfl) ?_
          refine lv_aload_n hx hb dX8_takeWord_40 rfl (lv_at hl 0 rfl) ?_
          obtain ⟨i16, hi16⟩ := hW.o8 hk_this
          refine va_get (D := (dC, dI)) (ci := 8) (v := .int (d13_G163 this)) (C := RX8) (T := TX8) (N := 8) hx hb hts inX8 hown hK hP i16 hi16 rfl 3 (by decide) (hts (.fieldLink RX8 21 "SpellTurner$TextWords" "isName" "Z") ic_459) (fun _ h9 => h9) rfl dX8_takeWord_41 ?_
          replace hr := jnS hr
          obtain ⟨j67, hj67, hr⟩ := hr
          have Jj67 : ∀ (t67_0 : Int32) (ws : va_W) (H : Heap) (locs : List Loc) (ls : Array Slot), j67 t67_0 = some (c_G160, c_G161, c_G163, c_G166) → LW ws ad kk kd ln (va_up (va_up (va_up G 160 m5) 163 d13_G163) 166 d13_G166) P U V X O → TYP kd P O (V 0) cnt → va_P (dC, dI) vwCl ws H → va_D A ws → va_S A s.heap H locs → lv_has ls 1 [(0, .ref (ad this))] → W p l e ({ frames := 4, cells := 0, slots := 0, locals := 100 } : Room) s m args below meth c H locs 0 0 Q (F0 m 67 ls [.int t67_0, .ref (ad this)]) := by
            intro t67_0 ws H locs ls hr hW hT hP hD hS hl
            rw [hj67] at hr
            replace hr := iteS hr
            obtain ⟨hz67, hr⟩ := hr
            obtain ⟨i17, hi17⟩ := hW.o8 hk_this
            refine va_put (D := (dC, dI)) (ci := 8) (v := .int t67_0) (ty := .boolean) (C := RX8) (T := TX8) (N := 8) hx hb hts inX8 tyX8 tyX8_ok nmX8 hown hK hP hD hS i17 hi17 rfl 3 (by decide) (hts (.fieldLink RX8 21 "SpellTurner$TextWords" "isName" "Z") ic_459) (fun _ h9 => h9) rfl (by decide +kernel) (z_nb hz67) (z_fb hz67) (Nat.le_of_ble_eq_true rfl) dX8_takeWord_67 (fun H locs hP2 hD2 hS => ?_)
            obtain ⟨m67, w18, em67, hP, hD, hW⟩ : ∃ (z : Nat → Int32) (w : va_W), z = (va_up d13_G163 this t67_0) ∧ va_P (dC, dI) vwCl w H ∧ va_D A w ∧ LW w ad kk kd ln (va_up (va_up (va_up (va_up G 160 m5) 163 d13_G163) 166 d13_G166) 163 z) P U V X O := ⟨_, _, rfl, hP2, hD2, hW.setG hD hi17 (by rw [hk_this]; decide) 163 t67_0 (by rw [hk_this]; rfl)⟩
            replace hr := vlS hr m67 em67
            clear em67
            refine lv_aload_n hx hb dX8_takeWord_70 rfl (lv_at hl 0 rfl) ?_
            refine lv_dup hx hb dX8_takeWord_71 rfl ?_
            obtain ⟨i19, hi19⟩ := hW.o8 hk_this
            refine va_get (D := (dC, dI)) (ci := 8) (v := .int (d13_G166 this)) (C := RX8) (T := TX8) (N := 8) hx hb hts inX8 hown hK hP i19 hi19 rfl 6 (by decide) (hts (.fieldLink RX8 32 "SpellTurner$TextWords" "at" "I") ic_450) (fun _ h9 => h9) rfl dX8_takeWord_72 ?_
            refine lv_iconst (v := 1) hx hb dX8_takeWord_75 (by decide +kernel) ?_
            refine lv_iadd hx hb dX8_takeWord_76 ?_
            refine lv_topi (fun x77 ex77 => ?_)
            replace hr := vlS hr x77 ex77
            clear ex77
            obtain ⟨i20, hi20⟩ := hW.o8 hk_this
            refine va_put (D := (dC, dI)) (ci := 8) (v := .int x77) (ty := .int) (C := RX8) (T := TX8) (N := 8) hx hb hts inX8 tyX8 tyX8_ok nmX8 hown hK hP hD hS i20 hi20 rfl 6 (by decide) (hts (.fieldLink RX8 32 "SpellTurner$TextWords" "at" "I") ic_450) (fun _ h9 => h9) rfl (by decide +kernel) rfl rfl (Nat.le_of_ble_eq_true rfl) dX8_takeWord_77 (fun H locs hP2 hD2 hS => ?_)
            obtain ⟨m77, w21, em77, hP, hD, hW⟩ : ∃ (z : Nat → Int32) (w : va_W), z = (va_up d13_G166 this x77) ∧ va_P (dC, dI) vwCl w H ∧ va_D A w ∧ LW w ad kk kd ln (va_up (va_up (va_up (va_up (va_up G 160 m5) 163 d13_G163) 166 d13_G166) 163 m67) 166 z) P U V X O := ⟨_, _, rfl, hP2, hD2, hW.setG hD hi20 (by rw [hk_this]; decide) 166 x77 (by rw [hk_this]; rfl)⟩
            replace hr := vlS hr m77 em77
            clear em77
            refine lv_goto (tgt := 13) hx hb dX8_takeWord_80 (by decide) ?_
            have eG : (va_up (va_up (va_up (va_up (va_up G 160 m5) 163 d13_G163) 166 d13_G166) 163 m67) 166 m77) = (va_up (va_up (va_up G 160 m5) 163 m67) 166 m77) := by
              funext k
              by_cases h160 : k = 160
              · subst h160; rfl
              by_cases h163 : k = 163
              · subst h163; rfl
              by_cases h166 : k = 166
              · subst h166; rfl
              · simp only [va_up, h160, h163, h166, if_false]
            rw [eG] at hW
            clear eG
            exact ih13 m67 m77 w21 H _ ls hr hW hT hP hD hS (lv_sub hl [0] rfl)
          replace hr := jnS hr
          obtain ⟨j62, hj62, hr⟩ := hr
          have Jj62 : ∀ (ws : va_W) (H : Heap) (locs : List Loc) (ls : Array Slot), j62 () = some (c_G160, c_G161, c_G163, c_G166) → LW ws ad kk kd ln (va_up (va_up (va_up G 160 m5) 163 d13_G163) 166 d13_G166) P U V X O → TYP kd P O (V 0) cnt → va_P (dC, dI) vwCl ws H → va_D A ws → va_S A s.heap H locs → lv_has ls 1 [(0, .ref (ad this))] → W p l e ({ frames := 4, cells := 0, slots := 0, locals := 100 } : Room) s m args below meth c H locs 0 0 Q (F0 m 62 ls [.ref (ad this)]) := by
            intro ws H locs ls hr hW hT hP hD hS hl
            rw [hj62] at hr
            refine lv_iconst (v := 1) hx hb dX8_takeWord_62 (by decide +kernel) ?_
            refine lv_goto (tgt := 67) hx hb dX8_takeWord_63 (by decide) ?_
            exact Jj67 1 ws H _ ls hr hW hT hP hD hS (lv_sub hl [0] rfl)
          refine lv_if_ne (tgt := 62) hx hb dX8_takeWord_44 (by decide) (fun c44 => ?_) (fun c44 => ?_)
          · replace hr := iteF c44 hr
            exact Jj62 w15 H _ ls hr hW hT hP hD hS (lv_sub hl [0] rfl)
          · replace hr := iteT c44 hr
            refine lv_aload_n hx hb dX8_takeWord_47 rfl (lv_at hl 0 rfl) ?_
            obtain ⟨i22, hi22⟩ := hW.o8 hk_this
            replace hr := nnS hr
            obtain ⟨a48, hn48, hr⟩ := hr
            have hk_a48 : kd a48 = 100 := hT.1 164 _ _ hn48
            refine va_get (D := (dC, dI)) (ci := 8) (v := .ref (ad a48)) (C := RX8) (T := TX8) (N := 8) hx hb hts inX8 hown hK hP i22 hi22 rfl 4 (by decide) (hts (.fieldLink RX8 25 "SpellTurner$TextWords" "text" "[B") ic_447) (fun _ h9 => h9) (congrArg (fun o => some (va_re ad o)) hn48) dX8_takeWord_48 ?_
            refine lv_aload_n hx hb dX8_takeWord_51 rfl (lv_at hl 0 rfl) ?_
            obtain ⟨i23, hi23⟩ := hW.o8 hk_this
            refine va_get (D := (dC, dI)) (ci := 8) (v := .int (d13_G166 this)) (C := RX8) (T := TX8) (N := 8) hx hb hts inX8 hown hK hP i23 hi23 rfl 6 (by decide) (hts (.fieldLink RX8 32 "SpellTurner$TextWords" "at" "I") ic_450) (fun _ h9 => h9) rfl dX8_takeWord_52 ?_
            obtain ⟨i24, hi24⟩ := hW.v0 hk_a48
            replace hr := iteS hr
            obtain ⟨hi55, hr⟩ := hr
            refine va_bald (f := ((V 0) a48)) hx hb hK hP i24 0 hi24 rfl (inbV hi55) dX8_takeWord_55 ?_
            replace hr := b1S hr
            obtain ⟨r56z, hc56, hr⟩ := hr
            have hFc := fr_all hD hS hA
            refine va_calli (va_runS (As := [.int (((V 0) a48) (Int32.toNatClampNeg (d13_G166 this)))]) (rest := [.ref (ad this)]) ⟨hx, hb, hml, hown, hts⟩ (m_X10_isCapital l dC dI kk ad H.size w15 (va_up (va_up (va_up G 160 m5) 163 d13_G163) 166 d13_G166) P U V X O kd ln cnt (((V 0) a48) (Int32.toNatClampNeg (d13_G166 this))) hW hT r56z hc56) (va_cwS 1 hts gc_RX8_X10_isCapital_51 rfl rfl rfl (by decide +kernel) ⟨Nat.le_of_ble_eq_true rfl, Nat.le_of_ble_eq_true rfl⟩) ⟨fun a U g mk q => by obtain ⟨q0, q1, qP, qK, qD⟩ := q; exact ⟨q0, q1, qP, va_K.moved (u := U) (U := U.calling g mk a) (Vm.Alike.refl U.vm) qK, qD⟩, fun U hU hW => ⟨rfl, by rw [hU], by rw [hU]; exact hP, va_K.moved hW.alike hK, hD.weaken (fun _ _ _ _ => trivial)⟩⟩ rfl rfl hl.1 rfl (lv_room (Nat.le_of_ble_eq_true rfl)) dX8_takeWord_56 ⟨Nat.le_of_ble_eq_true rfl, Nat.le_of_ble_eq_true rfl⟩) hS (fun q _ h => hFc q h) hFc (fun r56 w25 t H1 locs ht hvm hw hB hz1 hk1 hS => ?_)
            obtain ⟨hw0, hW, hT⟩ := hw
            replace hw0 : r56 = r56z := hw0
            subst hw0
            obtain ⟨hP1, hK1, hD1⟩ := hB
            rw [ht] at hP1
            obtain ⟨hP, hD⟩ := jn_all (w1 := w25) hFc hP1 hD1
            replace hP : va_P (dC, dI) vwCl w25 H1 := hP
            replace hD : va_D A w25 := hD
            clear hFc hP1 hK1 hD1 hk1 hz1 ht hvm
            generalize H1 = H at hP hS ⊢
            refine lv_if_eq (tgt := 66) hx hb dX8_takeWord_59 (by decide) (fun c59 => ?_) (fun c59 => ?_)
            · replace hr := iteT c59 hr
              refine lv_iconst (v := 0) hx hb dX8_takeWord_66 (by decide +kernel) ?_
              exact Jj67 0 w25 H _ ls hr hW hT hP hD hS (lv_sub hl [0] rfl)
            · replace hr := iteF c59 hr
              exact Jj62 w25 H _ ls hr hW hT hP hD hS (lv_sub hl [0] rfl)
  have eG : (va_up (va_up G 160 m5) 163 m10) = (va_up (va_up (va_up G 160 m5) 163 m10) 166 (G 166)) := by
    funext k
    by_cases h160 : k = 160
    · subst h160; rfl
    by_cases h163 : k = 163
    · subst h163; rfl
    by_cases h166 : k = 166
    · subst h166; rfl
    · simp only [va_up, h160, h163, h166, if_false]
  rw [eG] at hW
  clear eG
  exact lp13 NN m10 (G 166) w5 H _ ls hr hW hT hP hD hS (lv_sub hl [0] rfl)
set_option maxHeartbeats 4000000 in
set_option maxRecDepth 100000 in
theorem m_X8_takeWord (l : Launch) (dC : Nat → ClassId) (dI : Nat → Nat → Nat) (kk : Nat → ClassId) (ad : Nat → Nat) (sz : Nat) (ws : va_W) (G : Nat → Nat → Int32) (P : Nat → Nat → Option Nat) (U : Nat → Nat → Int64) (V : Nat → Nat → Nat → Int32) (X : Nat → Nat → Nat → Int64) (O : Nat → Nat → Nat → Option Nat) (kd : Nat → Nat) (ln : Nat → Nat) (cnt : Nat) (this : Nat) (hk_this : kd this = 9) (hW : LW ws ad kk kd ln G P U V X O) (hT : TYP kd P O (V 0) cnt) (c_G160 : Nat → Int32) (c_G161 : Nat → Int32) (c_G163 : Nat → Int32) (c_G166 : Nat → Int32) (hr : f_X8_takeWord G P U V X O kd ln cnt this = some (c_G160, c_G161, c_G163, c_G166)) : Met l yX8_takeWord vmX8_takeWord ({ frames := 4, cells := 0, slots := 0, locals := 100 } : Room) (va_Pc [.ref (ad this)] (fun U => U.heap.size = sz ∧ va_P (dC, dI) vwCl ws U.heap ∧ va_K (dC, dI) vwCl (cT kk) U ∧ va_D (fun _ => True) ws)) (va_Qv (fun w => LW w ad kk kd ln (va_up (va_up (va_up (va_up G 160 c_G160) 161 c_G161) 163 c_G163) 166 c_G166) P U V X O ∧ TYP kd P O (V 0) cnt) (fun w t => va_P (dC, dI) vwCl w t.heap ∧ va_K (dC, dI) vwCl (cT kk) t ∧ va_D (va_A ws sz) w) (va_A ws sz)) 0 0 (va_A ws sz) := by
  refine Met.ofW (cc := cX8_takeWord) (maxL := 1) (ret := none) (by decide) rfl ?_
  intro p e s m args below meth c s₁ B hml hv
  obtain ⟨rfl, hsz, hP, hK, hD0⟩ := hv
  have hx := B.exec
  have hb := B.bytes
  have hrt := B.returns
  have hts := atoms_spec (ws := vmX8_takeWord) B.pre
  have hown : s.vm.findClass RX8 = some m.cls := findClass_of_methodNamed B.named
  subst hsz
  have hD := hD0.self (sz := s.heap.size)
  generalize hAe : va_A ws s.heap.size = A at hD ⊢
  have hA : ∀ q : Nat, s.heap.size ≤ q → A q := fun q h => by rw [← hAe]; exact Or.inr h
  have hS : va_S A s.heap s.heap [] := va_S.rf
  have hl := lv_entry ([.ref (ad this)]) (n := 1) (Nat.le_of_ble_eq_true rfl)
  rw [lg_entry_eq]
  generalize (lg_sl ([.ref (ad this)]) ++ List.replicate (1 - (lg_sl ([.ref (ad this)])).length) Slot.unset).toArray = ls at hl ⊢
  exact bm_X8_takeWord this hk_this c_G160 c_G161 c_G163 c_G166 hr hx hb hml hown hts hA hK hW hT hP hD hS hl (fun pc ls c_G160z c_G161z c_G163z c_G166z ws H locs he hd hW hT hP hD hS => by cases he; exact W.vret hx hb hrt (fun t ht hW9 => ⟨⟨ws, rfl, ⟨hW, hT⟩, by rw [ht]; exact hP, va_K.moved hW9.alike hK, hD⟩, hS.F ht⟩) hS.2.2 hd)
set_option maxHeartbeats 4000000 in
set_option maxRecDepth 100000 in
theorem bm_X8_next {p : Program} {l : Launch} {e : Env} {s : State} {m : MethodId} {args : Array Value} {below : List Frame} {meth : Method} {c : Code} {Q : State → Prop} {A : Nat → Prop} {dC : Nat → ClassId} {dI : Nat → Nat → Nat} {kk : Nat → ClassId} {ad : Nat → Nat} {ws : va_W} {G : Nat → Nat → Int32} {P : Nat → Nat → Option Nat} {U : Nat → Nat → Int64} {V : Nat → Nat → Nat → Int32} {X : Nat → Nat → Nat → Int64} {O : Nat → Nat → Nat → Option Nat} {kd : Nat → Nat} {ln : Nat → Nat} {cnt : Nat} {H : Heap} {locs : List Loc} {ls : Array Slot} (this : Nat) (hk_this : kd this = 9) (r : Int32) (c_G160 : Nat → Int32) (c_G161 : Nat → Int32) (c_G162 : Nat → Int32) (c_G163 : Nat → Int32) (c_G166 : Nat → Int32) (c_G167 : Nat → Int32) (hr : f_X8_next G P U V X O kd ln cnt this = some (r, c_G160, c_G161, c_G162, c_G163, c_G166, c_G167)) (hx : p.tables.exec = Jvm.exec) (hb : c.code = cX8_next) (hml : c.maxLocals = 2) (hown : s.vm.findClass RX8 = some m.cls) (hts : ∀ w ∈ vmX8_next, w.before args s = true) (hA : ∀ q : Nat, s.heap.size ≤ q → A q) (hK : va_K (dC, dI) vwCl (cT kk) s) (hW : LW ws ad kk kd ln G P U V X O) (hT : TYP kd P O (V 0) cnt) (hP : va_P (dC, dI) vwCl ws H) (hD : va_D A ws) (hS : va_S A s.heap H locs) (hl : lv_has ls 2 [(0, .ref (ad this))])
    (K : ∀ (pc : Nat) (ls : Array Slot) (rz : Int32) (c_G160z : Nat → Int32) (c_G161z : Nat → Int32) (c_G162z : Nat → Int32) (c_G163z : Nat → Int32) (c_G166z : Nat → Int32) (c_G167z : Nat → Int32) (ws : va_W) (H : Heap) (locs : List Loc), some (rz, c_G160z, c_G161z, c_G162z, c_G163z, c_G166z, c_G167z) = some (r, c_G160, c_G161, c_G162, c_G163, c_G166, c_G167) → is01 rz → decode cX8_next pc = .ok (.ireturn, 1) → LW ws ad kk kd ln (va_up (va_up (va_up (va_up (va_up (va_up G 160 c_G160z) 161 c_G161z) 162 c_G162z) 163 c_G163z) 166 c_G166z) 167 c_G167z) P U V X O → TYP kd P O (V 0) cnt → va_P (dC, dI) vwCl ws H → va_D A ws → va_S A s.heap H locs → W p l e ({ frames := 5, cells := 0, slots := 0, locals := 120 } : Room) s m args below meth c H locs 0 0 Q (F0 m pc ls [.int rz])) : W p l e ({ frames := 5, cells := 0, slots := 0, locals := 120 } : Room) s m args below meth c H locs 0 0 Q (F0 m 0 ls []) := by
  unfold f_X8_next at hr
  have lp0 : ∀ (n0 : Nat), ∀ (d0_G162 : Nat → Int32) (d0_G166 : Nat → Int32) (d0_G167 : Nat → Int32) (ws : va_W) (H : Heap) (locs : List Loc) (ls : Array Slot), L_X8_next_0 G P U V X O kd ln cnt this n0 d0_G162 d0_G166 d0_G167 = some (r, c_G160, c_G161, c_G162, c_G163, c_G166, c_G167) → LW ws ad kk kd ln (va_up (va_up (va_up G 162 d0_G162) 166 d0_G166) 167 d0_G167) P U V X O → TYP kd P O (V 0) cnt → va_P (dC, dI) vwCl ws H → va_D A ws → va_S A s.heap H locs → lv_has ls 2 [(0, .ref (ad this))] → W p l e ({ frames := 5, cells := 0, slots := 0, locals := 120 } : Room) s m args below meth c H locs 0 0 Q (F0 m 0 ls []) := by
    intro n0
    induction n0 with
    | zero => intro d0_G162 d0_G166 d0_G167 ws H locs ls hr hW hT hP hD hS hl; exact nomatch (show none = some (r, c_G160, c_G161, c_G162, c_G163, c_G166, c_G167) from hr)
    | succ n0 ih0 =>
      intro d0_G162 d0_G166 d0_G167 ws H locs ls hr hW hT hP hD hS hl
      replace hr : B_X8_next_0 G P U V X O kd ln cnt this (L_X8_next_0 G P U V X O kd ln cnt this n0) d0_G162 d0_G166 d0_G167 = some (r, c_G160, c_G161, c_G162, c_G163, c_G166, c_G167) := hr
      unfold B_X8_next_0 at hr
      refine lv_aload_n hx hb dX8_next_0 rfl (lv_at hl 0 rfl) ?_
      obtain ⟨i1, hi1⟩ := hW.o8 hk_this
      refine va_get (D := (dC, dI)) (ci := 8) (v := .int (d0_G166 this)) (C := RX8) (T := TX8) (N := 8) hx hb hts inX8 hown hK hP i1 hi1 rfl 6 (by decide) (hts (.fieldLink RX8 32 "SpellTurner$TextWords" "at" "I") ic_450) (fun _ h9 => h9) rfl dX8_next_1 ?_
      refine lv_aload_n hx hb dX8_next_4 rfl (lv_at hl 0 rfl) ?_
      obtain ⟨i2, hi2⟩ := hW.o8 hk_this
      refine va_get (D := (dC, dI)) (ci := 8) (v := .int ((G 165) this)) (C := RX8) (T := TX8) (N := 8) hx hb hts inX8 hown hK hP i2 hi2 rfl 5 (by decide) (hts (.fieldLink RX8 29 "SpellTurner$TextWords" "size" "I") ic_449) (fun _ h9 => h9) rfl dX8_next_5 ?_
      refine lv_icmp_ge (tgt := 98) hx hb dX8_next_8 (by decide) (fun c8 => ?_) (fun c8 => ?_)
      · replace hr := iteT c8 hr
        refine lv_iconst (v := 0) hx hb dX8_next_98 (by decide +kernel) ?_
        have eG : (va_up (va_up (va_up G 162 d0_G162) 166 d0_G166) 167 d0_G167) = (va_up (va_up (va_up (va_up (va_up (va_up G 160 (G 160)) 161 (G 161)) 162 d0_G162) 163 (G 163)) 166 d0_G166) 167 d0_G167) := by
          funext k
          by_cases h160 : k = 160
          · subst h160; rfl
          by_cases h161 : k = 161
          · subst h161; rfl
          by_cases h162 : k = 162
          · subst h162; rfl
          by_cases h163 : k = 163
          · subst h163; rfl
          by_cases h166 : k = 166
          · subst h166; rfl
          by_cases h167 : k = 167
          · subst h167; rfl
          · simp only [va_up, h160, h161, h162, h163, h166, h167, if_false]
        rw [eG] at hW
        clear eG
        exact K 99 ls _ _ _ _ _ _ _ ws H _ hr (by decide) dX8_next_99 hW hT hP hD hS
      · replace hr := iteF c8 hr
        refine lv_aload_n hx hb dX8_next_11 rfl (lv_at hl 0 rfl) ?_
        obtain ⟨i3, hi3⟩ := hW.o8 hk_this
        replace hr := nnS hr
        obtain ⟨a12, hn12, hr⟩ := hr
        have hk_a12 : kd a12 = 100 := hT.1 164 _ _ hn12
        refine va_get (D := (dC, dI)) (ci := 8) (v := .ref (ad a12)) (C := RX8) (T := TX8) (N := 8) hx hb hts inX8 hown hK hP i3 hi3 rfl 4 (by decide) (hts (.fieldLink RX8 25 "SpellTurner$TextWords" "text" "[B") ic_447) (fun _ h9 => h9) (congrArg (fun o => some (va_re ad o)) hn12) dX8_next_12 ?_
        refine lv_aload_n hx hb dX8_next_15 rfl (lv_at hl 0 rfl) ?_
        obtain ⟨i4, hi4⟩ := hW.o8 hk_this
        refine va_get (D := (dC, dI)) (ci := 8) (v := .int (d0_G166 this)) (C := RX8) (T := TX8) (N := 8) hx hb hts inX8 hown hK hP i4 hi4 rfl 6 (by decide) (hts (.fieldLink RX8 32 "SpellTurner$TextWords" "at" "I") ic_450) (fun _ h9 => h9) rfl dX8_next_16 ?_
        obtain ⟨i5, hi5⟩ := hW.v0 hk_a12
        replace hr := iteS hr
        obtain ⟨hi19, hr⟩ := hr
        refine va_bald (f := ((V 0) a12)) hx hb hK hP i5 0 hi5 rfl (inbV hi19) dX8_next_19 ?_
        refine lv_topi (fun x20 ex20 => ?_)
        replace hr := vlS hr x20 ex20
        clear ex20
        refine lv_istore_n (lv' := [(1, .int x20), (0, .ref (ad this))]) hx hb dX8_next_20 rfl hl (by decide) rfl (fun ls hl => ?_)
        refine lv_iload_n hx hb dX8_next_21 rfl (lv_at hl 0 rfl) ?_
        refine lv_bipush (v := 10) hx hb dX8_next_22 (by decide +kernel) ?_
        replace hr := jnS hr
        obtain ⟨j85, hj85, hr⟩ := hr
        have Jj85 : ∀ (c85_G162 : Nat → Int32) (c85_G167 : Nat → Int32) (ws : va_W) (H : Heap) (locs : List Loc) (ls : Array Slot), j85 c85_G162 c85_G167 = some (r, c_G160, c_G161, c_G162, c_G163, c_G166, c_G167) → LW ws ad kk kd ln (va_up (va_up (va_up G 162 c85_G162) 166 d0_G166) 167 c85_G167) P U V X O → TYP kd P O (V 0) cnt → va_P (dC, dI) vwCl ws H → va_D A ws → va_S A s.heap H locs → lv_has ls 2 [(0, .ref (ad this))] → W p l e ({ frames := 5, cells := 0, slots := 0, locals := 120 } : Room) s m args below meth c H locs 0 0 Q (F0 m 85 ls []) := by
          intro c85_G162 c85_G167 ws H locs ls hr hW hT hP hD hS hl
          rw [hj85] at hr
          refine lv_aload_n hx hb dX8_next_85 rfl (lv_at hl 0 rfl) ?_
          refine lv_dup hx hb dX8_next_86 rfl ?_
          obtain ⟨i6, hi6⟩ := hW.o8 hk_this
          refine va_get (D := (dC, dI)) (ci := 8) (v := .int (d0_G166 this)) (C := RX8) (T := TX8) (N := 8) hx hb hts inX8 hown hK hP i6 hi6 rfl 6 (by decide) (hts (.fieldLink RX8 32 "SpellTurner$TextWords" "at" "I") ic_450) (fun _ h9 => h9) rfl dX8_next_87 ?_
          refine lv_iconst (v := 1) hx hb dX8_next_90 (by decide +kernel) ?_
          refine lv_iadd hx hb dX8_next_91 ?_
          refine lv_topi (fun x92 ex92 => ?_)
          replace hr := vlS hr x92 ex92
          clear ex92
          obtain ⟨i7, hi7⟩ := hW.o8 hk_this
          refine va_put (D := (dC, dI)) (ci := 8) (v := .int x92) (ty := .int) (C := RX8) (T := TX8) (N := 8) hx hb hts inX8 tyX8 tyX8_ok nmX8 hown hK hP hD hS i7 hi7 rfl 6 (by decide) (hts (.fieldLink RX8 32 "SpellTurner$TextWords" "at" "I") ic_450) (fun _ h9 => h9) rfl (by decide +kernel) rfl rfl (Nat.le_of_ble_eq_true rfl) dX8_next_92 (fun H locs hP2 hD2 hS => ?_)
          obtain ⟨m92, w8, em92, hP, hD, hW⟩ : ∃ (z : Nat → Int32) (w : va_W), z = (va_up d0_G166 this x92) ∧ va_P (dC, dI) vwCl w H ∧ va_D A w ∧ LW w ad kk kd ln (va_up (va_up (va_up (va_up G 162 c85_G162) 166 d0_G166) 167 c85_G167) 166 z) P U V X O := ⟨_, _, rfl, hP2, hD2, hW.setG hD hi7 (by rw [hk_this]; decide) 166 x92 (by rw [hk_this]; rfl)⟩
          replace hr := vlS hr m92 em92
          clear em92
          refine lv_goto (tgt := 0) hx hb dX8_next_95 (by decide) ?_
          have eG : (va_up (va_up (va_up (va_up G 162 c85_G162) 166 d0_G166) 167 c85_G167) 166 m92) = (va_up (va_up (va_up G 162 c85_G162) 166 m92) 167 c85_G167) := by
            funext k
            by_cases h162 : k = 162
            · subst h162; rfl
            by_cases h166 : k = 166
            · subst h166; rfl
            by_cases h167 : k = 167
            · subst h167; rfl
            · simp only [va_up, h162, h166, h167, if_false]
          rw [eG] at hW
          clear eG
          exact ih0 c85_G162 m92 c85_G167 w8 H _ ls hr hW hT hP hD hS (lv_sub hl [0] rfl)
        refine lv_icmp_ne (tgt := 40) hx hb dX8_next_24 (by decide) (fun c24 => ?_) (fun c24 => ?_)
        · replace hr := iteF c24 hr
          refine lv_iload_n hx hb dX8_next_40 rfl (lv_at hl 0 rfl) ?_
          refine lv_bipush (v := 34) hx hb dX8_next_41 (by decide +kernel) ?_
          refine lv_icmp_ne (tgt := 65) hx hb dX8_next_43 (by decide) (fun c43 => ?_) (fun c43 => ?_)
          · replace hr := iteF c43 hr
            refine lv_aload_n hx hb dX8_next_65 rfl (lv_at hl 1 rfl) ?_
            obtain ⟨i9, hi9⟩ := hW.o8 hk_this
            refine va_get (D := (dC, dI)) (ci := 8) (v := .int (d0_G167 this)) (C := RX8) (T := TX8) (N := 8) hx hb hts inX8 hown hK hP i9 hi9 rfl 7 (by decide) (hts (.fieldLink RX8 35 "SpellTurner$TextWords" "quoted" "Z") ic_452) (fun _ h9 => h9) rfl dX8_next_66 ?_
            refine lv_if_ne (tgt := 85) hx hb dX8_next_69 (by decide) (fun c69 => ?_) (fun c69 => ?_)
            · replace hr := iteF c69 hr
              exact Jj85 d0_G162 d0_G167 ws H _ ls hr hW hT hP hD hS (lv_sub hl [1] rfl)
            · replace hr := iteT c69 hr
              refine lv_iload_n hx hb dX8_next_72 rfl (lv_at hl 0 rfl) ?_
              replace hr := b1S hr
              obtain ⟨r73z, hc73, hr⟩ := hr
              have hFc := fr_all hD hS hA
              refine va_calli (va_runS (As := [.int x20]) (rest := []) ⟨hx, hb, hml, hown, hts⟩ (m_X8_isLetter l dC dI kk ad H.size ws (va_up (va_up (va_up G 162 d0_G162) 166 d0_G166) 167 d0_G167) P U V X O kd ln cnt x20 hW hT r73z hc73) (va_cwS 1 hts gc_RX8_X8_isLetter_44 rfl rfl rfl (by decide +kernel) ⟨Nat.le_of_ble_eq_true rfl, Nat.le_of_ble_eq_true rfl⟩) ⟨fun a U g mk q => by obtain ⟨q0, q1, qP, qK, qD⟩ := q; exact ⟨q0, q1, qP, va_K.moved (u := U) (U := U.calling g mk a) (Vm.Alike.refl U.vm) qK, qD⟩, fun U hU hW => ⟨rfl, by rw [hU], by rw [hU]; exact hP, va_K.moved hW.alike hK, hD.weaken (fun _ _ _ _ => trivial)⟩⟩ rfl rfl hl.1 rfl (lv_room (Nat.le_of_ble_eq_true rfl)) dX8_next_73 ⟨Nat.le_of_ble_eq_true rfl, Nat.le_of_ble_eq_true rfl⟩) hS (fun q _ h => hFc q h) hFc (fun r73 w10 t H1 locs ht hvm hw hB hz1 hk1 hS => ?_)
              obtain ⟨hw0, hW, hT⟩ := hw
              replace hw0 : r73 = r73z := hw0
              subst hw0
              obtain ⟨hP1, hK1, hD1⟩ := hB
              rw [ht] at hP1
              obtain ⟨hP, hD⟩ := jn_all (w1 := w10) hFc hP1 hD1
              replace hP : va_P (dC, dI) vwCl w10 H1 := hP
              replace hD : va_D A w10 := hD
              clear hFc hP1 hK1 hD1 hk1 hz1 ht hvm
              generalize H1 = H at hP hS ⊢
              refine lv_if_eq (tgt := 85) hx hb dX8_next_76 (by decide) (fun c76 => ?_) (fun c76 => ?_)
              · replace hr := iteT c76 hr
                exact Jj85 d0_G162 d0_G167 w10 H _ ls hr hW hT hP hD hS (lv_sub hl [1] rfl)
              · replace hr := iteF c76 hr
                refine lv_aload_n hx hb dX8_next_79 rfl (lv_at hl 1 rfl) ?_
                replace hr := b4S hr
                obtain ⟨c80_G160, c80_G161, c80_G163, c80_G166, hc80, hr⟩ := hr
                have hFc := fr_all hD hS hA
                obtain ⟨i11, hi11⟩ := hW.o8 hk_this
                refine va_callv (va_runV (As := []) (rest := []) ⟨hx, hb, hml, hown, hts⟩ (m_X8_takeWord l dC dI kk ad H.size w10 (va_up (va_up (va_up G 162 d0_G162) 166 d0_G166) 167 d0_G167) P U V X O kd ln cnt this hk_this hW hT c80_G160 c80_G161 c80_G163 c80_G166 hc80) (cwV 0 hts gc_RX8_X8_takeWord_48 rfl rfl rfl (by decide +kernel) ⟨Nat.le_of_ble_eq_true rfl, Nat.le_of_ble_eq_true rfl⟩) ⟨fun a U g mk q => by obtain ⟨q0, q1, qP, qK, qD⟩ := q; exact ⟨q0, q1, qP, va_K.moved (u := U) (U := U.calling g mk a) (Vm.Alike.refl U.vm) qK, qD⟩, va_recv hK hP (ci := 8) (q0 := i11) rfl hi11, fun U hU hW => ⟨rfl, by rw [hU], by rw [hU]; exact hP, va_K.moved hW.alike hK, hD.weaken (fun _ _ _ _ => trivial)⟩⟩ rfl rfl hl.1 rfl (lv_room (Nat.le_of_ble_eq_true rfl)) dX8_next_80 ⟨Nat.le_of_ble_eq_true rfl, Nat.le_of_ble_eq_true rfl⟩) hS (fun q _ h => hFc q h) hFc (fun w12 t H1 locs ht hvm hw hB hz1 hk1 hS => ?_)
                obtain ⟨hW, hT⟩ := hw
                obtain ⟨hP1, hK1, hD1⟩ := hB
                rw [ht] at hP1
                obtain ⟨hP, hD⟩ := jn_all (w1 := w12) hFc hP1 hD1
                replace hP : va_P (dC, dI) vwCl w12 H1 := hP
                replace hD : va_D A w12 := hD
                clear hFc hP1 hK1 hD1 hk1 hz1 ht hvm
                generalize H1 = H at hP hS ⊢
                refine lv_iconst (v := 1) hx hb dX8_next_83 (by decide +kernel) ?_
                have eG : (va_up (va_up (va_up (va_up (va_up (va_up (va_up G 162 d0_G162) 166 d0_G166) 167 d0_G167) 160 c80_G160) 161 c80_G161) 163 c80_G163) 166 c80_G166) = (va_up (va_up (va_up (va_up (va_up (va_up G 160 c80_G160) 161 c80_G161) 162 d0_G162) 163 c80_G163) 166 c80_G166) 167 d0_G167) := by
                  funext k
                  by_cases h160 : k = 160
                  · subst h160; rfl
                  by_cases h161 : k = 161
                  · subst h161; rfl
                  by_cases h162 : k = 162
                  · subst h162; rfl
                  by_cases h163 : k = 163
                  · subst h163; rfl
                  by_cases h166 : k = 166
                  · subst h166; rfl
                  by_cases h167 : k = 167
                  · subst h167; rfl
                  · simp only [va_up, h160, h161, h162, h163, h166, h167, if_false]
                rw [eG] at hW
                clear eG
                exact K 84 ls _ _ _ _ _ _ _ w12 H _ hr (by decide) dX8_next_84 hW hT hP hD hS
          · replace hr := iteT c43 hr
            refine lv_aload_n hx hb dX8_next_46 rfl (lv_at hl 1 rfl) ?_
            refine lv_aload_n hx hb dX8_next_47 rfl (lv_at hl 1 rfl) ?_
            obtain ⟨i13, hi13⟩ := hW.o8 hk_this
            refine va_get (D := (dC, dI)) (ci := 8) (v := .int (d0_G167 this)) (C := RX8) (T := TX8) (N := 8) hx hb hts inX8 hown hK hP i13 hi13 rfl 7 (by decide) (hts (.fieldLink RX8 35 "SpellTurner$TextWords" "quoted" "Z") ic_452) (fun _ h9 => h9) rfl dX8_next_48 ?_
            replace hr := jnS hr
            obtain ⟨j59, hj59, hr⟩ := hr
            have Jj59 : ∀ (t59_0 : Int32) (ws : va_W) (H : Heap) (locs : List Loc) (ls : Array Slot), j59 t59_0 = some (r, c_G160, c_G161, c_G162, c_G163, c_G166, c_G167) → LW ws ad kk kd ln (va_up (va_up (va_up G 162 d0_G162) 166 d0_G166) 167 d0_G167) P U V X O → TYP kd P O (V 0) cnt → va_P (dC, dI) vwCl ws H → va_D A ws → va_S A s.heap H locs → lv_has ls 2 [(0, .ref (ad this))] → W p l e ({ frames := 5, cells := 0, slots := 0, locals := 120 } : Room) s m args below meth c H locs 0 0 Q (F0 m 59 ls [.int t59_0, .ref (ad this)]) := by
              intro t59_0 ws H locs ls hr hW hT hP hD hS hl
              rw [hj59] at hr
              replace hr := iteS hr
              obtain ⟨hz59, hr⟩ := hr
              obtain ⟨i14, hi14⟩ := hW.o8 hk_this
              refine va_put (D := (dC, dI)) (ci := 8) (v := .int t59_0) (ty := .boolean) (C := RX8) (T := TX8) (N := 8) hx hb hts inX8 tyX8 tyX8_ok nmX8 hown hK hP hD hS i14 hi14 rfl 7 (by decide) (hts (.fieldLink RX8 35 "SpellTurner$TextWords" "quoted" "Z") ic_452) (fun _ h9 => h9) rfl (by decide +kernel) (z_nb hz59) (z_fb hz59) (Nat.le_of_ble_eq_true rfl) dX8_next_59 (fun H locs hP2 hD2 hS => ?_)
              obtain ⟨m59, w15, em59, hP, hD, hW⟩ : ∃ (z : Nat → Int32) (w : va_W), z = (va_up d0_G167 this t59_0) ∧ va_P (dC, dI) vwCl w H ∧ va_D A w ∧ LW w ad kk kd ln (va_up (va_up (va_up (va_up G 162 d0_G162) 166 d0_G166) 167 d0_G167) 167 z) P U V X O := ⟨_, _, rfl, hP2, hD2, hW.setG hD hi14 (by rw [hk_this]; decide) 167 t59_0 (by rw [hk_this]; rfl)⟩
              replace hr := vlS hr m59 em59
              clear em59
              refine lv_goto (tgt := 85) hx hb dX8_next_62 (by decide) ?_
              have eG : (va_up (va_up (va_up (va_up G 162 d0_G162) 166 d0_G166) 167 d0_G167) 167 m59) = (va_up (va_up (va_up G 162 d0_G162) 166 d0_G166) 167 m59) := by
                funext k
                by_cases h162 : k = 162
                · subst h162; rfl
                by_cases h166 : k = 166
                · subst h166; rfl
                by_cases h167 : k = 167
                · subst h167; rfl
                · simp only [va_up, h162, h166, h167, if_false]
              rw [eG] at hW
              clear eG
              exact Jj85 d0_G162 m59 w15 H _ ls hr hW hT hP hD hS (lv_sub hl [0] rfl)
            refine lv_if_ne (tgt := 58) hx hb dX8_next_51 (by decide) (fun c51 => ?_) (fun c51 => ?_)
            · replace hr := iteF c51 hr
              refine lv_iconst (v := 0) hx hb dX8_next_58 (by decide +kernel) ?_
              exact Jj59 0 ws H _ ls hr hW hT hP hD hS (lv_sub hl [1] rfl)
            · replace hr := iteT c51 hr
              refine lv_iconst (v := 1) hx hb dX8_next_54 (by decide +kernel) ?_
              refine lv_goto (tgt := 59) hx hb dX8_next_55 (by decide) ?_
              exact Jj59 1 ws H _ ls hr hW hT hP hD hS (lv_sub hl [1] rfl)
        · replace hr := iteT c24 hr
          refine lv_aload_n hx hb dX8_next_27 rfl (lv_at hl 1 rfl) ?_
          refine lv_dup hx hb dX8_next_28 rfl ?_
          obtain ⟨i16, hi16⟩ := hW.o8 hk_this
          refine va_get (D := (dC, dI)) (ci := 8) (v := .int (d0_G162 this)) (C := RX8) (T := TX8) (N := 8) hx hb hts inX8 hown hK hP i16 hi16 rfl 2 (by decide) (hts (.fieldLink RX8 18 "SpellTurner$TextWords" "lineNumber" "I") ic_451) (fun _ h9 => h9) rfl dX8_next_29 ?_
          refine lv_iconst (v := 1) hx hb dX8_next_32 (by decide +kernel) ?_
          refine lv_iadd hx hb dX8_next_33 ?_
          refine lv_topi (fun x34 ex34 => ?_)
          replace hr := vlS hr x34 ex34
          clear ex34
          obtain ⟨i17, hi17⟩ := hW.o8 hk_this
          refine va_put (D := (dC, dI)) (ci := 8) (v := .int x34) (ty := .int) (C := RX8) (T := TX8) (N := 8) hx hb hts inX8 tyX8 tyX8_ok nmX8 hown hK hP hD hS i17 hi17 rfl 2 (by decide) (hts (.fieldLink RX8 18 "SpellTurner$TextWords" "lineNumber" "I") ic_451) (fun _ h9 => h9) rfl (by decide +kernel) rfl rfl (Nat.le_of_ble_eq_true rfl) dX8_next_34 (fun H locs hP2 hD2 hS => ?_)
          obtain ⟨m34, w18, em34, hP, hD, hW⟩ : ∃ (z : Nat → Int32) (w : va_W), z = (va_up d0_G162 this x34) ∧ va_P (dC, dI) vwCl w H ∧ va_D A w ∧ LW w ad kk kd ln (va_up (va_up (va_up (va_up G 162 d0_G162) 166 d0_G166) 167 d0_G167) 162 z) P U V X O := ⟨_, _, rfl, hP2, hD2, hW.setG hD hi17 (by rw [hk_this]; decide) 162 x34 (by rw [hk_this]; rfl)⟩
          replace hr := vlS hr m34 em34
          clear em34
          refine lv_goto (tgt := 85) hx hb dX8_next_37 (by decide) ?_
          have eG : (va_up (va_up (va_up (va_up G 162 d0_G162) 166 d0_G166) 167 d0_G167) 162 m34) = (va_up (va_up (va_up G 162 m34) 166 d0_G166) 167 d0_G167) := by
            funext k
            by_cases h162 : k = 162
            · subst h162; rfl
            by_cases h166 : k = 166
            · subst h166; rfl
            by_cases h167 : k = 167
            · subst h167; rfl
            · simp only [va_up, h162, h166, h167, if_false]
          rw [eG] at hW
          clear eG
          exact Jj85 m34 d0_G167 w18 H _ ls hr hW hT hP hD hS (lv_sub hl [1] rfl)
  have eG : G = (va_up (va_up (va_up G 162 (G 162)) 166 (G 166)) 167 (G 167)) := by
    funext k
    by_cases h162 : k = 162
    · subst h162; rfl
    by_cases h166 : k = 166
    · subst h166; rfl
    by_cases h167 : k = 167
    · subst h167; rfl
    · simp only [va_up, h162, h166, h167, if_false]
  rw [eG] at hW
  clear eG
  exact lp0 NN (G 162) (G 166) (G 167) ws H _ ls hr hW hT hP hD hS (lv_sub hl [0] rfl)
set_option maxHeartbeats 4000000 in
set_option maxRecDepth 100000 in
theorem m_X8_next (l : Launch) (dC : Nat → ClassId) (dI : Nat → Nat → Nat) (kk : Nat → ClassId) (ad : Nat → Nat) (sz : Nat) (ws : va_W) (G : Nat → Nat → Int32) (P : Nat → Nat → Option Nat) (U : Nat → Nat → Int64) (V : Nat → Nat → Nat → Int32) (X : Nat → Nat → Nat → Int64) (O : Nat → Nat → Nat → Option Nat) (kd : Nat → Nat) (ln : Nat → Nat) (cnt : Nat) (this : Nat) (hk_this : kd this = 9) (hW : LW ws ad kk kd ln G P U V X O) (hT : TYP kd P O (V 0) cnt) (r : Int32) (c_G160 : Nat → Int32) (c_G161 : Nat → Int32) (c_G162 : Nat → Int32) (c_G163 : Nat → Int32) (c_G166 : Nat → Int32) (c_G167 : Nat → Int32) (hr : f_X8_next G P U V X O kd ln cnt this = some (r, c_G160, c_G161, c_G162, c_G163, c_G166, c_G167)) : Met l yX8_next vmX8_next ({ frames := 5, cells := 0, slots := 0, locals := 120 } : Room) (va_Pc [.ref (ad this)] (fun U => U.heap.size = sz ∧ va_P (dC, dI) vwCl ws U.heap ∧ va_K (dC, dI) vwCl (cT kk) U ∧ va_D (fun _ => True) ws)) (va_Qi (fun (rz : Int32) (w : va_W) => rz = r ∧ LW w ad kk kd ln (va_up (va_up (va_up (va_up (va_up (va_up G 160 c_G160) 161 c_G161) 162 c_G162) 163 c_G163) 166 c_G166) 167 c_G167) P U V X O ∧ TYP kd P O (V 0) cnt) (fun w t => va_P (dC, dI) vwCl w t.heap ∧ va_K (dC, dI) vwCl (cT kk) t ∧ va_D (va_A ws sz) w) (va_A ws sz)) 0 0 (va_A ws sz) := by
  refine Met.ofW (cc := cX8_next) (maxL := 2) (ret := (some .boolean)) (by decide) rfl ?_
  intro p e s m args below meth c s₁ B hml hv
  obtain ⟨rfl, hsz, hP, hK, hD0⟩ := hv
  have hx := B.exec
  have hb := B.bytes
  have hrt := B.returns
  have hts := atoms_spec (ws := vmX8_next) B.pre
  have hown : s.vm.findClass RX8 = some m.cls := findClass_of_methodNamed B.named
  subst hsz
  have hD := hD0.self (sz := s.heap.size)
  generalize hAe : va_A ws s.heap.size = A at hD ⊢
  have hA : ∀ q : Nat, s.heap.size ≤ q → A q := fun q h => by rw [← hAe]; exact Or.inr h
  have hS : va_S A s.heap s.heap [] := va_S.rf
  have hl := lv_entry ([.ref (ad this)]) (n := 2) (Nat.le_of_ble_eq_true rfl)
  rw [lg_entry_eq]
  generalize (lg_sl ([.ref (ad this)]) ++ List.replicate (2 - (lg_sl ([.ref (ad this)])).length) Slot.unset).toArray = ls at hl ⊢
  exact bm_X8_next this hk_this r c_G160 c_G161 c_G162 c_G163 c_G166 c_G167 hr hx hb hml hown hts hA hK hW hT hP hD hS hl (fun pc ls rz c_G160z c_G161z c_G162z c_G163z c_G166z c_G167z ws H locs he hz hd hW hT hP hD hS => by cases he; exact W.zret (v := r) hx hb hrt (z_nb hz) (fun t ht hW9 => ⟨⟨r, ws, rfl, ⟨rfl, hW, hT⟩, by rw [ht]; exact hP, va_K.moved hW9.alike hK, hD⟩, hS.F ht⟩) hS.2.2 hd)
set_option maxHeartbeats 4000000 in
set_option maxRecDepth 100000 in
theorem bm_X11_write {p : Program} {l : Launch} {e : Env} {s : State} {m : MethodId} {args : Array Value} {below : List Frame} {meth : Method} {c : Code} {Q : State → Prop} {A : Nat → Prop} {dC : Nat → ClassId} {dI : Nat → Nat → Nat} {kk : Nat → ClassId} {ad : Nat → Nat} {ws : va_W} {G : Nat → Nat → Int32} {P : Nat → Nat → Option Nat} {U : Nat → Nat → Int64} {V : Nat → Nat → Nat → Int32} {X : Nat → Nat → Nat → Int64} {O : Nat → Nat → Nat → Option Nat} {kd : Nat → Nat} {ln : Nat → Nat} {cnt : Nat} {H : Heap} {locs : List Loc} {ls : Array Slot} (this : Nat) (p0 : Int32) (p1 : Int32) (hk_this : kd this = 12) (r : Int32) (c_G60 : Nat → Int32) (c_G124 : Nat → Int32) (c_G125 : Nat → Int32) (c_G126 : Nat → Int32) (c_G127 : Nat → Int32) (c_G128 : Nat → Int32) (c_G141 : Nat → Int32) (c_G160 : Nat → Int32) (c_G161 : Nat → Int32) (c_G162 : Nat → Int32) (c_G163 : Nat → Int32) (c_G165 : Nat → Int32) (c_G166 : Nat → Int32) (c_G167 : Nat → Int32) (c_G183 : Nat → Int32) (c_G203 : Nat → Int32) (c_P66 : Nat → Option Nat) (c_P120 : Nat → Option Nat) (c_P121 : Nat → Option Nat) (c_P122 : Nat → Option Nat) (c_P123 : Nat → Option Nat) (c_P164 : Nat → Option Nat) (c_P181 : Nat → Option Nat) (c_P182 : Nat → Option Nat) (c_P186 : Nat → Option Nat) (c_P187 : Nat → Option Nat) (c_U184 : Nat → Int64) (c_V0 : Nat → Nat → Int32) (c_V1 : Nat → Nat → Int32) (c_V2 : Nat → Nat → Int32) (c_V6 : Nat → Nat → Int32) (c_V12 : Nat → Nat → Int32) (hr : f_X11_write G P U V X O kd ln cnt this p0 p1 = some (r, c_G60, c_G124, c_G125, c_G126, c_G127, c_G128, c_G141, c_G160, c_G161, c_G162, c_G163, c_G165, c_G166, c_G167, c_G183, c_G203, c_P66, c_P120, c_P121, c_P122, c_P123, c_P164, c_P181, c_P182, c_P186, c_P187, c_U184, c_V0, c_V1, c_V2, c_V6, c_V12)) (hx : p.tables.exec = Jvm.exec) (hb : c.code = cX11_write) (hml : c.maxLocals = 5) (hown : s.vm.findClass RX11 = some m.cls) (hts : ∀ w ∈ vmX11_write, w.before args s = true) (hA : ∀ q : Nat, s.heap.size ≤ q → A q) (hK : va_K (dC, dI) vwCl (cT kk) s) (hW : LW ws ad kk kd ln G P U V X O) (hT : TYP kd P O (V 0) cnt) (hP : va_P (dC, dI) vwCl ws H) (hD : va_D A ws) (hS : va_S A s.heap H locs) (hl : lv_has ls 5 [(0, .ref (ad this)), (1, .int p0), (2, .int p1)])
    (K : ∀ (pc : Nat) (ls : Array Slot) (rz : Int32) (c_G60z : Nat → Int32) (c_G124z : Nat → Int32) (c_G125z : Nat → Int32) (c_G126z : Nat → Int32) (c_G127z : Nat → Int32) (c_G128z : Nat → Int32) (c_G141z : Nat → Int32) (c_G160z : Nat → Int32) (c_G161z : Nat → Int32) (c_G162z : Nat → Int32) (c_G163z : Nat → Int32) (c_G165z : Nat → Int32) (c_G166z : Nat → Int32) (c_G167z : Nat → Int32) (c_G183z : Nat → Int32) (c_G203z : Nat → Int32) (c_P66z : Nat → Option Nat) (c_P120z : Nat → Option Nat) (c_P121z : Nat → Option Nat) (c_P122z : Nat → Option Nat) (c_P123z : Nat → Option Nat) (c_P164z : Nat → Option Nat) (c_P181z : Nat → Option Nat) (c_P182z : Nat → Option Nat) (c_P186z : Nat → Option Nat) (c_P187z : Nat → Option Nat) (c_U184z : Nat → Int64) (c_V0z : Nat → Nat → Int32) (c_V1z : Nat → Nat → Int32) (c_V2z : Nat → Nat → Int32) (c_V6z : Nat → Nat → Int32) (c_V12z : Nat → Nat → Int32) (ws : va_W) (H : Heap) (locs : List Loc), some (rz, c_G60z, c_G124z, c_G125z, c_G126z, c_G127z, c_G128z, c_G141z, c_G160z, c_G161z, c_G162z, c_G163z, c_G165z, c_G166z, c_G167z, c_G183z, c_G203z, c_P66z, c_P120z, c_P121z, c_P122z, c_P123z, c_P164z, c_P181z, c_P182z, c_P186z, c_P187z, c_U184z, c_V0z, c_V1z, c_V2z, c_V6z, c_V12z) = some (r, c_G60, c_G124, c_G125, c_G126, c_G127, c_G128, c_G141, c_G160, c_G161, c_G162, c_G163, c_G165, c_G166, c_G167, c_G183, c_G203, c_P66, c_P120, c_P121, c_P122, c_P123, c_P164, c_P181, c_P182, c_P186, c_P187, c_U184, c_V0, c_V1, c_V2, c_V6, c_V12) → decode cX11_write pc = .ok (.ireturn, 1) → LW ws ad kk kd ln (va_up (va_up (va_up (va_up (va_up (va_up (va_up (va_up (va_up (va_up (va_up (va_up (va_up (va_up (va_up (va_up G 60 c_G60z) 124 c_G124z) 125 c_G125z) 126 c_G126z) 127 c_G127z) 128 c_G128z) 141 c_G141z) 160 c_G160z) 161 c_G161z) 162 c_G162z) 163 c_G163z) 165 c_G165z) 166 c_G166z) 167 c_G167z) 183 c_G183z) 203 c_G203z) (va_up (va_up (va_up (va_up (va_up (va_up (va_up (va_up (va_up (va_up P 66 c_P66z) 120 c_P120z) 121 c_P121z) 122 c_P122z) 123 c_P123z) 164 c_P164z) 181 c_P181z) 182 c_P182z) 186 c_P186z) 187 c_P187z) (va_up U 184 c_U184z) (va_up (va_up (va_up (va_up (va_up V 0 c_V0z) 1 c_V1z) 2 c_V2z) 6 c_V6z) 12 c_V12z) X O → TYP kd (va_up (va_up (va_up (va_up (va_up (va_up (va_up (va_up (va_up (va_up P 66 c_P66z) 120 c_P120z) 121 c_P121z) 122 c_P122z) 123 c_P123z) 164 c_P164z) 181 c_P181z) 182 c_P182z) 186 c_P186z) 187 c_P187z) O c_V0z cnt → va_P (dC, dI) vwCl ws H → va_D A ws → va_S A s.heap H locs → W p l e ({ frames := 49, cells := 0, slots := 0, locals := 1275 } : Room) s m args below meth c H locs 0 0 Q (F0 m pc ls [.int rz])) : W p l e ({ frames := 49, cells := 0, slots := 0, locals := 1275 } : Room) s m args below meth c H locs 0 0 Q (F0 m 0 ls []) := by
  unfold f_X11_write at hr
  refine lv_aload_n hx hb dX11_write_0 rfl (lv_at hl 0 rfl) ?_
  obtain ⟨i1, hi1⟩ := hW.o11 hk_this
  replace hr := nnS hr
  obtain ⟨a1, hn1, hr⟩ := hr
  have hk_a1 : kd a1 = 8 := hT.1 220 _ _ hn1
  refine va_get (D := (dC, dI)) (ci := 11) (v := .ref (ad a1)) (C := RX11) (T := TX11) (N := 17) hx hb hts inX11 hown hK hP i1 hi1 rfl 0 (by decide) (hts (.fieldLink RX11 12 "SpellTurner" "tape" "LSpellTurner$Tape;") ic_48) (fun _ h9 => h9) (congrArg (fun o => some (va_re ad o)) hn1) dX11_write_1 ?_
  replace hr := b2S hr
  obtain ⟨r4z, c4_G141, hc4, hr⟩ := hr
  have hFc := fr_all hD hS hA
  obtain ⟨i2, hi2⟩ := hW.o7 hk_a1
  refine va_calli (va_runV (As := []) (rest := []) ⟨hx, hb, hml, hown, hts⟩ (m_X7_take l dC dI kk ad H.size ws G P U V X O kd ln cnt a1 hk_a1 hW hT r4z c4_G141 hc4) (cwV 0 hts gc_RX11_X7_take_112 rfl rfl rfl (by decide +kernel) ⟨Nat.le_of_ble_eq_true rfl, Nat.le_of_ble_eq_true rfl⟩) ⟨fun a U g mk q => by obtain ⟨q0, q1, qP, qK, qD⟩ := q; exact ⟨q0, q1, qP, va_K.moved (u := U) (U := U.calling g mk a) (Vm.Alike.refl U.vm) qK, qD⟩, va_recv hK hP (ci := 7) (q0 := i2) rfl hi2, fun U hU hW => ⟨rfl, by rw [hU], by rw [hU]; exact hP, va_K.moved hW.alike hK, hD.weaken (fun _ _ _ _ => trivial)⟩⟩ rfl rfl hl.1 rfl (lv_room (Nat.le_of_ble_eq_true rfl)) dX11_write_4 ⟨Nat.le_of_ble_eq_true rfl, Nat.le_of_ble_eq_true rfl⟩) hS (fun q _ h => hFc q h) hFc (fun r4 w3 t H1 locs ht hvm hw hB hz1 hk1 hS => ?_)
  obtain ⟨hw0, hW, hT⟩ := hw
  replace hw0 : r4 = r4z := hw0
  subst hw0
  obtain ⟨hP1, hK1, hD1⟩ := hB
  rw [ht] at hP1
  obtain ⟨hP, hD⟩ := jn_all (w1 := w3) hFc hP1 hD1
  replace hP : va_P (dC, dI) vwCl w3 H1 := hP
  replace hD : va_D A w3 := hD
  clear hFc hP1 hK1 hD1 hk1 hz1 ht hvm
  generalize H1 = H at hP hS ⊢
  refine lv_istore_n (lv' := [(3, .int r4), (0, .ref (ad this)), (1, .int p0), (2, .int p1)]) hx hb dX11_write_7 rfl hl (by decide) rfl (fun ls hl => ?_)
  refine lv_aload_n hx hb dX11_write_8 rfl (lv_at hl 1 rfl) ?_
  refine lv_iload_n hx hb dX11_write_9 rfl (lv_at hl 2 rfl) ?_
  refine lv_iload_n hx hb dX11_write_10 rfl (lv_at hl 3 rfl) ?_
  replace hr := b1S hr
  obtain ⟨r11z, hc11, hr⟩ := hr
  have hFc := fr_all hD hS hA
  obtain ⟨i4, hi4⟩ := hW.o11 hk_this
  refine va_calli (va_runV (As := [.int p0, .int p1]) (rest := []) ⟨hx, hb, hml, hown, hts⟩ (m_X11_areStages l dC dI kk ad H.size w3 (va_up G 141 c4_G141) P U V X O kd ln cnt this p0 p1 hk_this hW hT r11z hc11) (cwV 2 hts gc_RX11_X11_areStages_160 rfl rfl rfl (by decide +kernel) ⟨Nat.le_of_ble_eq_true rfl, Nat.le_of_ble_eq_true rfl⟩) ⟨fun a U g mk q => by obtain ⟨q0, q1, qP, qK, qD⟩ := q; exact ⟨q0, q1, qP, va_K.moved (u := U) (U := U.calling g mk a) (Vm.Alike.refl U.vm) qK, qD⟩, va_recv hK hP (ci := 11) (q0 := i4) rfl hi4, fun U hU hW => ⟨rfl, by rw [hU], by rw [hU]; exact hP, va_K.moved hW.alike hK, hD.weaken (fun _ _ _ _ => trivial)⟩⟩ rfl rfl hl.1 rfl (lv_room (Nat.le_of_ble_eq_true rfl)) dX11_write_11 ⟨Nat.le_of_ble_eq_true rfl, Nat.le_of_ble_eq_true rfl⟩) hS (fun q _ h => hFc q h) hFc (fun r11 w5 t H1 locs ht hvm hw hB hz1 hk1 hS => ?_)
  obtain ⟨hw0, hW, hT⟩ := hw
  replace hw0 : r11 = r11z := hw0
  subst hw0
  obtain ⟨hP1, hK1, hD1⟩ := hB
  rw [ht] at hP1
  obtain ⟨hP, hD⟩ := jn_all (w1 := w5) hFc hP1 hD1
  replace hP : va_P (dC, dI) vwCl w5 H1 := hP
  replace hD : va_D A w5 := hD
  clear hFc hP1 hK1 hD1 hk1 hz1 ht hvm
  generalize H1 = H at hP hS ⊢
  refine lv_if_ne (tgt := 20) hx hb dX11_write_14 (by decide) (fun c14 => ?_) (fun c14 => ?_)
  · replace hr := iteF c14 hr
    refine lv_aload_n hx hb dX11_write_20 rfl (lv_at hl 1 rfl) ?_
    obtain ⟨i6, hi6⟩ := hW.o11 hk_this
    replace hr := nnS hr
    obtain ⟨a21, hn21, hr⟩ := hr
    have hk_a21 : kd a21 = 8 := hT.1 220 _ _ hn21
    refine va_get (D := (dC, dI)) (ci := 11) (v := .ref (ad a21)) (C := RX11) (T := TX11) (N := 17) hx hb hts inX11 hown hK hP i6 hi6 rfl 0 (by decide) (hts (.fieldLink RX11 12 "SpellTurner" "tape" "LSpellTurner$Tape;") ic_48) (fun _ h9 => h9) (congrArg (fun o => some (va_re ad o)) hn21) dX11_write_21 ?_
    refine lv_iload_n hx hb dX11_write_24 rfl (lv_at hl 0 rfl) ?_
    replace hr := b1S hr
    obtain ⟨r25z, hc25, hr⟩ := hr
    have hFc := fr_all hD hS hA
    obtain ⟨i7, hi7⟩ := hW.o7 hk_a21
    refine va_calli (va_runV (As := [.int r4]) (rest := []) ⟨hx, hb, hml, hown, hts⟩ (m_X7_hasZero l dC dI kk ad H.size w5 (va_up G 141 c4_G141) P U V X O kd ln cnt a21 r4 hk_a21 hW hT r25z hc25) (cwV 1 hts gc_RX11_X7_hasZero_239 rfl rfl rfl (by decide +kernel) ⟨Nat.le_of_ble_eq_true rfl, Nat.le_of_ble_eq_true rfl⟩) ⟨fun a U g mk q => by obtain ⟨q0, q1, qP, qK, qD⟩ := q; exact ⟨q0, q1, qP, va_K.moved (u := U) (U := U.calling g mk a) (Vm.Alike.refl U.vm) qK, qD⟩, va_recv hK hP (ci := 7) (q0 := i7) rfl hi7, fun U hU hW => ⟨rfl, by rw [hU], by rw [hU]; exact hP, va_K.moved hW.alike hK, hD.weaken (fun _ _ _ _ => trivial)⟩⟩ rfl rfl hl.1 rfl (lv_room (Nat.le_of_ble_eq_true rfl)) dX11_write_25 ⟨Nat.le_of_ble_eq_true rfl, Nat.le_of_ble_eq_true rfl⟩) hS (fun q _ h => hFc q h) hFc (fun r25 w8 t H1 locs ht hvm hw hB hz1 hk1 hS => ?_)
    obtain ⟨hw0, hW, hT⟩ := hw
    replace hw0 : r25 = r25z := hw0
    subst hw0
    obtain ⟨hP1, hK1, hD1⟩ := hB
    rw [ht] at hP1
    obtain ⟨hP, hD⟩ := jn_all (w1 := w8) hFc hP1 hD1
    replace hP : va_P (dC, dI) vwCl w8 H1 := hP
    replace hD : va_D A w8 := hD
    clear hFc hP1 hK1 hD1 hk1 hz1 ht hvm
    generalize H1 = H at hP hS ⊢
    refine lv_if_eq (tgt := 33) hx hb dX11_write_28 (by decide) (fun c28 => ?_) (fun c28 => ?_)
    · replace hr := iteT c28 hr
      refine lv_aload_n hx hb dX11_write_33 rfl (lv_at hl 1 rfl) ?_
      obtain ⟨i9, hi9⟩ := hW.o11 hk_this
      replace hr := nnS hr
      obtain ⟨a34, hn34, hr⟩ := hr
      have hk_a34 : kd a34 = 9 := hT.1 234 _ _ hn34
      refine va_get (D := (dC, dI)) (ci := 11) (v := .ref (ad a34)) (C := RX11) (T := TX11) (N := 17) hx hb hts inX11 hown hK hP i9 hi9 rfl 14 (by decide) (hts (.fieldLink RX11 87 "SpellTurner" "textWords" "LSpellTurner$TextWords;") ic_108) (fun _ h9 => h9) (congrArg (fun o => some (va_re ad o)) hn34) dX11_write_34 ?_
      refine lv_aload_n hx hb dX11_write_37 rfl (lv_at hl 1 rfl) ?_
      obtain ⟨i10, hi10⟩ := hW.o11 hk_this
      replace hr := nnS hr
      obtain ⟨a38, hn38, hr⟩ := hr
      have hk_a38 : kd a38 = 8 := hT.1 220 _ _ hn38
      refine va_get (D := (dC, dI)) (ci := 11) (v := .ref (ad a38)) (C := RX11) (T := TX11) (N := 17) hx hb hts inX11 hown hK hP i10 hi10 rfl 0 (by decide) (hts (.fieldLink RX11 12 "SpellTurner" "tape" "LSpellTurner$Tape;") ic_48) (fun _ h9 => h9) (congrArg (fun o => some (va_re ad o)) hn38) dX11_write_38 ?_
      obtain ⟨i11, hi11⟩ := hW.o7 hk_a38
      replace hr := nnS hr
      obtain ⟨a41, hn41, hr⟩ := hr
      have hk_a41 : kd a41 = 100 := hT.1 140 _ _ hn41
      refine va_get (D := (dC, dI)) (ci := 7) (v := .ref (ad a41)) (C := RX7) (T := TX7) (N := 2) hx hb hts inX7 hown hK hP i11 hi11 rfl 0 (by decide) (hts (.fieldLink RX11 120 "SpellTurner$Tape" "bytes" "[B") ic_107) (fun _ h9 => h9) (congrArg (fun o => some (va_re ad o)) hn41) dX11_write_41 ?_
      refine lv_iload_n hx hb dX11_write_44 rfl (lv_at hl 0 rfl) ?_
      replace hr := b5S hr
      obtain ⟨c45_G162, c45_G165, c45_G166, c45_G167, c45_P164, hc45, hr⟩ := hr
      have hFc := fr_all hD hS hA
      obtain ⟨i12, hi12⟩ := hW.o8 hk_a34
      refine va_callv (va_runV (As := [.ref (ad a41), .int r4]) (rest := []) ⟨hx, hb, hml, hown, hts⟩ (m_X8_begin l dC dI kk ad H.size w8 (va_up G 141 c4_G141) P U V X O kd ln cnt a34 a41 r4 hk_a34 hk_a41 hW hT c45_G162 c45_G165 c45_G166 c45_G167 c45_P164 hc45) (cwV 2 hts gc_RX11_X8_begin_242 rfl rfl rfl (by decide +kernel) ⟨Nat.le_of_ble_eq_true rfl, Nat.le_of_ble_eq_true rfl⟩) ⟨fun a U g mk q => by obtain ⟨q0, q1, qP, qK, qD⟩ := q; exact ⟨q0, q1, qP, va_K.moved (u := U) (U := U.calling g mk a) (Vm.Alike.refl U.vm) qK, qD⟩, va_recv hK hP (ci := 8) (q0 := i12) rfl hi12, fun U hU hW => ⟨rfl, by rw [hU], by rw [hU]; exact hP, va_K.moved hW.alike hK, hD.weaken (fun _ _ _ _ => trivial)⟩⟩ rfl rfl hl.1 rfl (lv_room (Nat.le_of_ble_eq_true rfl)) dX11_write_45 ⟨Nat.le_of_ble_eq_true rfl, Nat.le_of_ble_eq_true rfl⟩) hS (fun q _ h => hFc q h) hFc (fun w13 t H1 locs ht hvm hw hB hz1 hk1 hS => ?_)
      obtain ⟨hW, hT⟩ := hw
      obtain ⟨hP1, hK1, hD1⟩ := hB
      rw [ht] at hP1
      obtain ⟨hP, hD⟩ := jn_all (w1 := w13) hFc hP1 hD1
      replace hP : va_P (dC, dI) vwCl w13 H1 := hP
      replace hD : va_D A w13 := hD
      clear hFc hP1 hK1 hD1 hk1 hz1 ht hvm
      generalize H1 = H at hP hS ⊢
      refine lv_aload_n hx hb dX11_write_48 rfl (lv_at hl 1 rfl) ?_
      obtain ⟨i14, hi14⟩ := hW.o11 hk_this
      replace hr := nnS hr
      obtain ⟨a49, hn49, hr⟩ := hr
      have hk_a49 : kd a49 = 7 := hT.1 235 _ _ hn49
      refine va_get (D := (dC, dI)) (ci := 11) (v := .ref (ad a49)) (C := RX11) (T := TX11) (N := 17) hx hb hts inX11 hown hK hP i14 hi14 rfl 15 (by decide) (hts (.fieldLink RX11 94 "SpellTurner" "scribe" "LSpellTurner$Scribe;") ic_129) (fun _ h9 => h9) (congrArg (fun o => some (va_re ad o)) hn49) dX11_write_49 ?_
      replace hr := b4S hr
      obtain ⟨c52_G126, c52_G127, c52_G128, c52_V6, hc52, hr⟩ := hr
      have hFc := fr_all hD hS hA
      obtain ⟨i15, hi15⟩ := hW.o6 hk_a49
      refine va_callv (va_runV (As := []) (rest := []) ⟨hx, hb, hml, hown, hts⟩ (m_X6_begin l dC dI kk ad H.size w13 (va_up (va_up (va_up (va_up (va_up G 141 c4_G141) 162 c45_G162) 165 c45_G165) 166 c45_G166) 167 c45_G167) (va_up P 164 c45_P164) U V X O kd ln cnt a49 hk_a49 hW hT c52_G126 c52_G127 c52_G128 c52_V6 hc52) (cwV 0 hts gc_RX11_X6_begin_246 rfl rfl rfl (by decide +kernel) ⟨Nat.le_of_ble_eq_true rfl, Nat.le_of_ble_eq_true rfl⟩) ⟨fun a U g mk q => by obtain ⟨q0, q1, qP, qK, qD⟩ := q; exact ⟨q0, q1, qP, va_K.moved (u := U) (U := U.calling g mk a) (Vm.Alike.refl U.vm) qK, qD⟩, va_recv hK hP (ci := 6) (q0 := i15) rfl hi15, fun U hU hW => ⟨rfl, by rw [hU], by rw [hU]; exact hP, va_K.moved hW.alike hK, hD.weaken (fun _ _ _ _ => trivial)⟩⟩ rfl rfl hl.1 rfl (lv_room (Nat.le_of_ble_eq_true rfl)) dX11_write_52 ⟨Nat.le_of_ble_eq_true rfl, Nat.le_of_ble_eq_true rfl⟩) hS (fun q _ h => hFc q h) hFc (fun w16 t H1 locs ht hvm hw hB hz1 hk1 hS => ?_)
      obtain ⟨hW, hT⟩ := hw
      obtain ⟨hP1, hK1, hD1⟩ := hB
      rw [ht] at hP1
      obtain ⟨hP, hD⟩ := jn_all (w1 := w16) hFc hP1 hD1
      replace hP : va_P (dC, dI) vwCl w16 H1 := hP
      replace hD : va_D A w16 := hD
      clear hFc hP1 hK1 hD1 hk1 hz1 ht hvm
      generalize H1 = H at hP hS ⊢
      refine lv_iconst (v := 0) hx hb dX11_write_55 (by decide +kernel) ?_
      refine lv_istore (lv' := [(4, .int 0), (3, .int r4), (0, .ref (ad this)), (1, .int p0), (2, .int p1)]) hx hb dX11_write_56 hl (by decide) rfl (fun ls hl => ?_)
      replace hr := jnS hr
      obtain ⟨k167, hk167, hr⟩ := hr
      have Jk167 : ∀ (c167_G60 : Nat → Int32) (c167_G126 : Nat → Int32) (c167_G127 : Nat → Int32) (c167_G128 : Nat → Int32) (c167_G160 : Nat → Int32) (c167_G161 : Nat → Int32) (c167_G162 : Nat → Int32) (c167_G163 : Nat → Int32) (c167_G166 : Nat → Int32) (c167_G167 : Nat → Int32) (c167_G183 : Nat → Int32) (c167_G203 : Nat → Int32) (c167_P66 : Nat → Option Nat) (c167_P181 : Nat → Option Nat) (c167_P182 : Nat → Option Nat) (c167_P186 : Nat → Option Nat) (c167_P187 : Nat → Option Nat) (c167_U184 : Nat → Int64) (c167_V0 : Nat → Nat → Int32) (c167_V1 : Nat → Nat → Int32) (c167_V2 : Nat → Nat → Int32) (c167_V6 : Nat → Nat → Int32) (c167_V12 : Nat → Nat → Int32) (ws : va_W) (H : Heap) (locs : List Loc) (ls : Array Slot), k167 c167_G60 c167_G126 c167_G127 c167_G128 c167_G160 c167_G161 c167_G162 c167_G163 c167_G166 c167_G167 c167_G183 c167_G203 c167_P66 c167_P181 c167_P182 c167_P186 c167_P187 c167_U184 c167_V0 c167_V1 c167_V2 c167_V6 c167_V12 = some (r, c_G60, c_G124, c_G125, c_G126, c_G127, c_G128, c_G141, c_G160, c_G161, c_G162, c_G163, c_G165, c_G166, c_G167, c_G183, c_G203, c_P66, c_P120, c_P121, c_P122, c_P123, c_P164, c_P181, c_P182, c_P186, c_P187, c_U184, c_V0, c_V1, c_V2, c_V6, c_V12) → LW ws ad kk kd ln (va_up (va_up (va_up (va_up (va_up (va_up (va_up (va_up (va_up (va_up (va_up (va_up (va_up (va_up G 60 c167_G60) 126 c167_G126) 127 c167_G127) 128 c167_G128) 141 c4_G141) 160 c167_G160) 161 c167_G161) 162 c167_G162) 163 c167_G163) 165 c45_G165) 166 c167_G166) 167 c167_G167) 183 c167_G183) 203 c167_G203) (va_up (va_up (va_up (va_up (va_up (va_up P 66 c167_P66) 164 c45_P164) 181 c167_P181) 182 c167_P182) 186 c167_P186) 187 c167_P187) (va_up U 184 c167_U184) (va_up (va_up (va_up (va_up (va_up V 0 c167_V0) 1 c167_V1) 2 c167_V2) 6 c167_V6) 12 c167_V12) X O → TYP kd (va_up (va_up (va_up (va_up (va_up (va_up P 66 c167_P66) 164 c45_P164) 181 c167_P181) 182 c167_P182) 186 c167_P186) 187 c167_P187) O c167_V0 cnt → va_P (dC, dI) vwCl ws H → va_D A ws → va_S A s.heap H locs → lv_has ls 5 [(0, .ref (ad this)), (3, .int r4)] → W p l e ({ frames := 49, cells := 0, slots := 0, locals := 1275 } : Room) s m args below meth c H locs 0 0 Q (F0 m 167 ls []) := by
        intro c167_G60 c167_G126 c167_G127 c167_G128 c167_G160 c167_G161 c167_G162 c167_G163 c167_G166 c167_G167 c167_G183 c167_G203 c167_P66 c167_P181 c167_P182 c167_P186 c167_P187 c167_U184 c167_V0 c167_V1 c167_V2 c167_V6 c167_V12 ws H locs ls hr hW hT hP hD hS hl
        rw [hk167] at hr
        refine lv_aload_n hx hb dX11_write_167 rfl (lv_at hl 0 rfl) ?_
        obtain ⟨i17, hi17⟩ := hW.o11 hk_this
        replace hr := nnS hr
        obtain ⟨a168, hn168, hr⟩ := hr
        have hk_a168 : kd a168 = 7 := hT.1 235 _ _ hn168
        refine va_get (D := (dC, dI)) (ci := 11) (v := .ref (ad a168)) (C := RX11) (T := TX11) (N := 17) hx hb hts inX11 hown hK hP i17 hi17 rfl 15 (by decide) (hts (.fieldLink RX11 94 "SpellTurner" "scribe" "LSpellTurner$Scribe;") ic_129) (fun _ h9 => h9) (congrArg (fun o => some (va_re ad o)) hn168) dX11_write_168 ?_
        refine lv_aload_n hx hb dX11_write_171 rfl (lv_at hl 0 rfl) ?_
        obtain ⟨i18, hi18⟩ := hW.o11 hk_this
        replace hr := nnS hr
        obtain ⟨a172, hn172, hr⟩ := hr
        have hk_a172 : kd a172 = 8 := hT.1 220 _ _ hn172
        refine va_get (D := (dC, dI)) (ci := 11) (v := .ref (ad a172)) (C := RX11) (T := TX11) (N := 17) hx hb hts inX11 hown hK hP i18 hi18 rfl 0 (by decide) (hts (.fieldLink RX11 12 "SpellTurner" "tape" "LSpellTurner$Tape;") ic_48) (fun _ h9 => h9) (congrArg (fun o => some (va_re ad o)) hn172) dX11_write_172 ?_
        obtain ⟨i19, hi19⟩ := hW.o7 hk_a172
        replace hr := nnS hr
        obtain ⟨a175, hn175, hr⟩ := hr
        have hk_a175 : kd a175 = 100 := hT.1 140 _ _ hn175
        refine va_get (D := (dC, dI)) (ci := 7) (v := .ref (ad a175)) (C := RX7) (T := TX7) (N := 2) hx hb hts inX7 hown hK hP i19 hi19 rfl 0 (by decide) (hts (.fieldLink RX11 120 "SpellTurner$Tape" "bytes" "[B") ic_107) (fun _ h9 => h9) (congrArg (fun o => some (va_re ad o)) hn175) dX11_write_175 ?_
        refine lv_iload_n hx hb dX11_write_178 rfl (lv_at hl 1 rfl) ?_
        replace hr := b10S hr
        obtain ⟨r179z, c179_G124, c179_G125, c179_G126, c179_G128, c179_P120, c179_P121, c179_P122, c179_P123, c179_V0, hc179, hr⟩ := hr
        have hFc := fr_all hD hS hA
        obtain ⟨i20, hi20⟩ := hW.o6 hk_a168
        refine va_calli (va_runV (As := [.ref (ad a175), .int r4]) (rest := []) ⟨hx, hb, hml, hown, hts⟩ (m_X6_finish l dC dI kk ad H.size ws (va_up (va_up (va_up (va_up (va_up (va_up (va_up (va_up (va_up (va_up (va_up (va_up (va_up (va_up G 60 c167_G60) 126 c167_G126) 127 c167_G127) 128 c167_G128) 141 c4_G141) 160 c167_G160) 161 c167_G161) 162 c167_G162) 163 c167_G163) 165 c45_G165) 166 c167_G166) 167 c167_G167) 183 c167_G183) 203 c167_G203) (va_up (va_up (va_up (va_up (va_up (va_up P 66 c167_P66) 164 c45_P164) 181 c167_P181) 182 c167_P182) 186 c167_P186) 187 c167_P187) (va_up U 184 c167_U184) (va_up (va_up (va_up (va_up (va_up V 0 c167_V0) 1 c167_V1) 2 c167_V2) 6 c167_V6) 12 c167_V12) X O kd ln cnt a168 a175 r4 hk_a168 hk_a175 hW hT r179z c179_G124 c179_G125 c179_G126 c179_G128 c179_P120 c179_P121 c179_P122 c179_P123 c179_V0 hc179) (cwV 2 hts gc_RX11_X6_finish_269 rfl rfl rfl (by decide +kernel) ⟨Nat.le_of_ble_eq_true rfl, Nat.le_of_ble_eq_true rfl⟩) ⟨fun a U g mk q => by obtain ⟨q0, q1, qP, qK, qD⟩ := q; exact ⟨q0, q1, qP, va_K.moved (u := U) (U := U.calling g mk a) (Vm.Alike.refl U.vm) qK, qD⟩, va_recv hK hP (ci := 6) (q0 := i20) rfl hi20, fun U hU hW => ⟨rfl, by rw [hU], by rw [hU]; exact hP, va_K.moved hW.alike hK, hD.weaken (fun _ _ _ _ => trivial)⟩⟩ rfl rfl hl.1 rfl (lv_room (Nat.le_of_ble_eq_true rfl)) dX11_write_179 ⟨Nat.le_of_ble_eq_true rfl, Nat.le_of_ble_eq_true rfl⟩) hS (fun q _ h => hFc q h) hFc (fun r179 w21 t H1 locs ht hvm hw hB hz1 hk1 hS => ?_)
        obtain ⟨hw0, hW, hT⟩ := hw
        replace hw0 : r179 = r179z := hw0
        subst hw0
        obtain ⟨hP1, hK1, hD1⟩ := hB
        rw [ht] at hP1
        obtain ⟨hP, hD⟩ := jn_all (w1 := w21) hFc hP1 hD1
        replace hP : va_P (dC, dI) vwCl w21 H1 := hP
        replace hD : va_D A w21 := hD
        clear hFc hP1 hK1 hD1 hk1 hz1 ht hvm
        generalize H1 = H at hP hS ⊢
        have eG : (va_up (va_up (va_up (va_up (va_up (va_up (va_up (va_up (va_up (va_up (va_up (va_up (va_up (va_up (va_up (va_up (va_up (va_up G 60 c167_G60) 126 c167_G126) 127 c167_G127) 128 c167_G128) 141 c4_G141) 160 c167_G160) 161 c167_G161) 162 c167_G162) 163 c167_G163) 165 c45_G165) 166 c167_G166) 167 c167_G167) 183 c167_G183) 203 c167_G203) 124 c179_G124) 125 c179_G125) 126 c179_G126) 128 c179_G128) = (va_up (va_up (va_up (va_up (va_up (va_up (va_up (va_up (va_up (va_up (va_up (va_up (va_up (va_up (va_up (va_up G 60 c167_G60) 124 c179_G124) 125 c179_G125) 126 c179_G126) 127 c167_G127) 128 c179_G128) 141 c4_G141) 160 c167_G160) 161 c167_G161) 162 c167_G162) 163 c167_G163) 165 c45_G165) 166 c167_G166) 167 c167_G167) 183 c167_G183) 203 c167_G203) := by
          funext k
          by_cases h60 : k = 60
          · subst h60; rfl
          by_cases h124 : k = 124
          · subst h124; rfl
          by_cases h125 : k = 125
          · subst h125; rfl
          by_cases h126 : k = 126
          · subst h126; rfl
          by_cases h127 : k = 127
          · subst h127; rfl
          by_cases h128 : k = 128
          · subst h128; rfl
          by_cases h141 : k = 141
          · subst h141; rfl
          by_cases h160 : k = 160
          · subst h160; rfl
          by_cases h161 : k = 161
          · subst h161; rfl
          by_cases h162 : k = 162
          · subst h162; rfl
          by_cases h163 : k = 163
          · subst h163; rfl
          by_cases h165 : k = 165
          · subst h165; rfl
          by_cases h166 : k = 166
          · subst h166; rfl
          by_cases h167 : k = 167
          · subst h167; rfl
          by_cases h183 : k = 183
          · subst h183; rfl
          by_cases h203 : k = 203
          · subst h203; rfl
          · simp only [va_up, h60, h124, h125, h126, h127, h128, h141, h160, h161, h162, h163, h165, h166, h167, h183, h203, if_false]
        rw [eG] at hW
        clear eG
        have eP : (va_up (va_up (va_up (va_up (va_up (va_up (va_up (va_up (va_up (va_up P 66 c167_P66) 164 c45_P164) 181 c167_P181) 182 c167_P182) 186 c167_P186) 187 c167_P187) 120 c179_P120) 121 c179_P121) 122 c179_P122) 123 c179_P123) = (va_up (va_up (va_up (va_up (va_up (va_up (va_up (va_up (va_up (va_up P 66 c167_P66) 120 c179_P120) 121 c179_P121) 122 c179_P122) 123 c179_P123) 164 c45_P164) 181 c167_P181) 182 c167_P182) 186 c167_P186) 187 c167_P187) := by
          funext k
          by_cases h66 : k = 66
          · subst h66; rfl
          by_cases h120 : k = 120
          · subst h120; rfl
          by_cases h121 : k = 121
          · subst h121; rfl
          by_cases h122 : k = 122
          · subst h122; rfl
          by_cases h123 : k = 123
          · subst h123; rfl
          by_cases h164 : k = 164
          · subst h164; rfl
          by_cases h181 : k = 181
          · subst h181; rfl
          by_cases h182 : k = 182
          · subst h182; rfl
          by_cases h186 : k = 186
          · subst h186; rfl
          by_cases h187 : k = 187
          · subst h187; rfl
          · simp only [va_up, h66, h120, h121, h122, h123, h164, h181, h182, h186, h187, if_false]
        rw [eP] at hW
        rw [eP] at hT
        clear eP
        have eV : (va_up (va_up (va_up (va_up (va_up (va_up V 0 c167_V0) 1 c167_V1) 2 c167_V2) 6 c167_V6) 12 c167_V12) 0 c179_V0) = (va_up (va_up (va_up (va_up (va_up V 0 c179_V0) 1 c167_V1) 2 c167_V2) 6 c167_V6) 12 c167_V12) := by
          funext k
          by_cases h0 : k = 0
          · subst h0; rfl
          by_cases h1 : k = 1
          · subst h1; rfl
          by_cases h2 : k = 2
          · subst h2; rfl
          by_cases h6 : k = 6
          · subst h6; rfl
          by_cases h12 : k = 12
          · subst h12; rfl
          · simp only [va_up, h0, h1, h2, h6, h12, if_false]
        rw [eV] at hW
        clear eV
        exact K 182 ls _ _ _ _ _ _ _ _ _ _ _ _ _ _ _ _ _ _ _ _ _ _ _ _ _ _ _ _ _ _ _ _ _ w21 H _ hr dX11_write_182 hW hT hP hD hS
      have lp58 : ∀ (n58 : Nat), ∀ (y58_4 : Int32) (d58_G60 : Nat → Int32) (d58_G126 : Nat → Int32) (d58_G127 : Nat → Int32) (d58_G128 : Nat → Int32) (d58_G160 : Nat → Int32) (d58_G161 : Nat → Int32) (d58_G162 : Nat → Int32) (d58_G163 : Nat → Int32) (d58_G166 : Nat → Int32) (d58_G167 : Nat → Int32) (d58_G183 : Nat → Int32) (d58_G203 : Nat → Int32) (d58_P66 : Nat → Option Nat) (d58_P181 : Nat → Option Nat) (d58_P182 : Nat → Option Nat) (d58_P186 : Nat → Option Nat) (d58_P187 : Nat → Option Nat) (d58_U184 : Nat → Int64) (d58_V0 : Nat → Nat → Int32) (d58_V1 : Nat → Nat → Int32) (d58_V2 : Nat → Nat → Int32) (d58_V6 : Nat → Nat → Int32) (d58_V12 : Nat → Nat → Int32) (ws : va_W) (H : Heap) (locs : List Loc) (ls : Array Slot), L_X11_write_58 G P U V X O kd ln cnt this p0 p1 r4 c4_G141 c45_G165 c45_P164 k167 n58 y58_4 d58_G60 d58_G126 d58_G127 d58_G128 d58_G160 d58_G161 d58_G162 d58_G163 d58_G166 d58_G167 d58_G183 d58_G203 d58_P66 d58_P181 d58_P182 d58_P186 d58_P187 d58_U184 d58_V0 d58_V1 d58_V2 d58_V6 d58_V12 = some (r, c_G60, c_G124, c_G125, c_G126, c_G127, c_G128, c_G141, c_G160, c_G161, c_G162, c_G163, c_G165, c_G166, c_G167, c_G183, c_G203, c_P66, c_P120, c_P121, c_P122, c_P123, c_P164, c_P181, c_P182, c_P186, c_P187, c_U184, c_V0, c_V1, c_V2, c_V6, c_V12) → LW ws ad kk kd ln (va_up (va_up (va_up (va_up (va_up (va_up (va_up (va_up (va_up (va_up (va_up (va_up (va_up (va_up G 60 d58_G60) 126 d58_G126) 127 d58_G127) 128 d58_G128) 141 c4_G141) 160 d58_G160) 161 d58_G161) 162 d58_G162) 163 d58_G163) 165 c45_G165) 166 d58_G166) 167 d58_G167) 183 d58_G183) 203 d58_G203) (va_up (va_up (va_up (va_up (va_up (va_up P 66 d58_P66) 164 c45_P164) 181 d58_P181) 182 d58_P182) 186 d58_P186) 187 d58_P187) (va_up U 184 d58_U184) (va_up (va_up (va_up (va_up (va_up V 0 d58_V0) 1 d58_V1) 2 d58_V2) 6 d58_V6) 12 d58_V12) X O → TYP kd (va_up (va_up (va_up (va_up (va_up (va_up P 66 d58_P66) 164 c45_P164) 181 d58_P181) 182 d58_P182) 186 d58_P186) 187 d58_P187) O d58_V0 cnt → va_P (dC, dI) vwCl ws H → va_D A ws → va_S A s.heap H locs → lv_has ls 5 [(0, .ref (ad this)), (1, .int p0), (2, .int p1), (3, .int r4), (4, .int y58_4)] → W p l e ({ frames := 49, cells := 0, slots := 0, locals := 1275 } : Room) s m args below meth c H locs 0 0 Q (F0 m 58 ls []) := by
        intro n58
        induction n58 with
        | zero => intro y58_4 d58_G60 d58_G126 d58_G127 d58_G128 d58_G160 d58_G161 d58_G162 d58_G163 d58_G166 d58_G167 d58_G183 d58_G203 d58_P66 d58_P181 d58_P182 d58_P186 d58_P187 d58_U184 d58_V0 d58_V1 d58_V2 d58_V6 d58_V12 ws H locs ls hr hW hT hP hD hS hl; exact nomatch (show none = some (r, c_G60, c_G124, c_G125, c_G126, c_G127, c_G128, c_G141, c_G160, c_G161, c_G162, c_G163, c_G165, c_G166, c_G167, c_G183, c_G203, c_P66, c_P120, c_P121, c_P122, c_P123, c_P164, c_P181, c_P182, c_P186, c_P187, c_U184, c_V0, c_V1, c_V2, c_V6, c_V12) from hr)
        | succ n58 ih58 =>
          intro y58_4 d58_G60 d58_G126 d58_G127 d58_G128 d58_G160 d58_G161 d58_G162 d58_G163 d58_G166 d58_G167 d58_G183 d58_G203 d58_P66 d58_P181 d58_P182 d58_P186 d58_P187 d58_U184 d58_V0 d58_V1 d58_V2 d58_V6 d58_V12 ws H locs ls hr hW hT hP hD hS hl
          replace hr : B_X11_write_58 G P U V X O kd ln cnt this p0 p1 r4 c4_G141 c45_G165 c45_P164 k167 (L_X11_write_58 G P U V X O kd ln cnt this p0 p1 r4 c4_G141 c45_G165 c45_P164 k167 n58) y58_4 d58_G60 d58_G126 d58_G127 d58_G128 d58_G160 d58_G161 d58_G162 d58_G163 d58_G166 d58_G167 d58_G183 d58_G203 d58_P66 d58_P181 d58_P182 d58_P186 d58_P187 d58_U184 d58_V0 d58_V1 d58_V2 d58_V6 d58_V12 = some (r, c_G60, c_G124, c_G125, c_G126, c_G127, c_G128, c_G141, c_G160, c_G161, c_G162, c_G163, c_G165, c_G166, c_G167, c_G183, c_G203, c_P66, c_P120, c_P121, c_P122, c_P123, c_P164, c_P181, c_P182, c_P186, c_P187, c_U184, c_V0, c_V1, c_V2, c_V6, c_V12) := hr
          unfold B_X11_write_58 at hr
          refine lv_iload hx hb dX11_write_58 (lv_at hl 4 rfl) ?_
          refine lv_iload_n hx hb dX11_write_60 rfl (lv_at hl 3 rfl) ?_
          refine lv_icmp_ge (tgt := 167) hx hb dX11_write_61 (by decide) (fun c61 => ?_) (fun c61 => ?_)
          · replace hr := iteT c61 hr
            exact Jk167 d58_G60 d58_G126 d58_G127 d58_G128 d58_G160 d58_G161 d58_G162 d58_G163 d58_G166 d58_G167 d58_G183 d58_G203 d58_P66 d58_P181 d58_P182 d58_P186 d58_P187 d58_U184 d58_V0 d58_V1 d58_V2 d58_V6 d58_V12 ws H _ ls hr hW hT hP hD hS (lv_sub hl [0, 3] rfl)
          · replace hr := iteF c61 hr
            refine lv_aload_n hx hb dX11_write_64 rfl (lv_at hl 0 rfl) ?_
            obtain ⟨i22, hi22⟩ := hW.o11 hk_this
            replace hr := nnS hr
            obtain ⟨a65, hn65, hr⟩ := hr
            have hk_a65 : kd a65 = 9 := hT.1 234 _ _ hn65
            refine va_get (D := (dC, dI)) (ci := 11) (v := .ref (ad a65)) (C := RX11) (T := TX11) (N := 17) hx hb hts inX11 hown hK hP i22 hi22 rfl 14 (by decide) (hts (.fieldLink RX11 87 "SpellTurner" "textWords" "LSpellTurner$TextWords;") ic_108) (fun _ h9 => h9) (congrArg (fun o => some (va_re ad o)) hn65) dX11_write_65 ?_
            replace hr := b7S hr
            obtain ⟨r68z, c68_G160, c68_G161, c68_G162, c68_G163, c68_G166, c68_G167, hc68, hr⟩ := hr
            have hFc := fr_all hD hS hA
            obtain ⟨i23, hi23⟩ := hW.o8 hk_a65
            refine va_calli (va_runV (As := []) (rest := []) ⟨hx, hb, hml, hown, hts⟩ (m_X8_next l dC dI kk ad H.size ws (va_up (va_up (va_up (va_up (va_up (va_up (va_up (va_up (va_up (va_up (va_up (va_up (va_up (va_up G 60 d58_G60) 126 d58_G126) 127 d58_G127) 128 d58_G128) 141 c4_G141) 160 d58_G160) 161 d58_G161) 162 d58_G162) 163 d58_G163) 165 c45_G165) 166 d58_G166) 167 d58_G167) 183 d58_G183) 203 d58_G203) (va_up (va_up (va_up (va_up (va_up (va_up P 66 d58_P66) 164 c45_P164) 181 d58_P181) 182 d58_P182) 186 d58_P186) 187 d58_P187) (va_up U 184 d58_U184) (va_up (va_up (va_up (va_up (va_up V 0 d58_V0) 1 d58_V1) 2 d58_V2) 6 d58_V6) 12 d58_V12) X O kd ln cnt a65 hk_a65 hW hT r68z c68_G160 c68_G161 c68_G162 c68_G163 c68_G166 c68_G167 hc68) (cwV 0 hts gc_RX11_X8_next_248 rfl rfl rfl (by decide +kernel) ⟨Nat.le_of_ble_eq_true rfl, Nat.le_of_ble_eq_true rfl⟩) ⟨fun a U g mk q => by obtain ⟨q0, q1, qP, qK, qD⟩ := q; exact ⟨q0, q1, qP, va_K.moved (u := U) (U := U.calling g mk a) (Vm.Alike.refl U.vm) qK, qD⟩, va_recv hK hP (ci := 8) (q0 := i23) rfl hi23, fun U hU hW => ⟨rfl, by rw [hU], by rw [hU]; exact hP, va_K.moved hW.alike hK, hD.weaken (fun _ _ _ _ => trivial)⟩⟩ rfl rfl hl.1 rfl (lv_room (Nat.le_of_ble_eq_true rfl)) dX11_write_68 ⟨Nat.le_of_ble_eq_true rfl, Nat.le_of_ble_eq_true rfl⟩) hS (fun q _ h => hFc q h) hFc (fun r68 w24 t H1 locs ht hvm hw hB hz1 hk1 hS => ?_)
            obtain ⟨hw0, hW, hT⟩ := hw
            replace hw0 : r68 = r68z := hw0
            subst hw0
            obtain ⟨hP1, hK1, hD1⟩ := hB
            rw [ht] at hP1
            obtain ⟨hP, hD⟩ := jn_all (w1 := w24) hFc hP1 hD1
            replace hP : va_P (dC, dI) vwCl w24 H1 := hP
            replace hD : va_D A w24 := hD
            clear hFc hP1 hK1 hD1 hk1 hz1 ht hvm
            generalize H1 = H at hP hS ⊢
            refine lv_if_eq (tgt := 167) hx hb dX11_write_71 (by decide) (fun c71 => ?_) (fun c71 => ?_)
            · replace hr := iteT c71 hr
              have eG : (va_up (va_up (va_up (va_up (va_up (va_up (va_up (va_up (va_up (va_up (va_up (va_up (va_up (va_up (va_up (va_up (va_up (va_up (va_up (va_up G 60 d58_G60) 126 d58_G126) 127 d58_G127) 128 d58_G128) 141 c4_G141) 160 d58_G160) 161 d58_G161) 162 d58_G162) 163 d58_G163) 165 c45_G165) 166 d58_G166) 167 d58_G167) 183 d58_G183) 203 d58_G203) 160 c68_G160) 161 c68_G161) 162 c68_G162) 163 c68_G163) 166 c68_G166) 167 c68_G167) = (va_up (va_up (va_up (va_up (va_up (va_up (va_up (va_up (va_up (va_up (va_up (va_up (va_up (va_up G 60 d58_G60) 126 d58_G126) 127 d58_G127) 128 d58_G128) 141 c4_G141) 160 c68_G160) 161 c68_G161) 162 c68_G162) 163 c68_G163) 165 c45_G165) 166 c68_G166) 167 c68_G167) 183 d58_G183) 203 d58_G203) := by
                funext k
                by_cases h60 : k = 60
                · subst h60; rfl
                by_cases h126 : k = 126
                · subst h126; rfl
                by_cases h127 : k = 127
                · subst h127; rfl
                by_cases h128 : k = 128
                · subst h128; rfl
                by_cases h141 : k = 141
                · subst h141; rfl
                by_cases h160 : k = 160
                · subst h160; rfl
                by_cases h161 : k = 161
                · subst h161; rfl
                by_cases h162 : k = 162
                · subst h162; rfl
                by_cases h163 : k = 163
                · subst h163; rfl
                by_cases h165 : k = 165
                · subst h165; rfl
                by_cases h166 : k = 166
                · subst h166; rfl
                by_cases h167 : k = 167
                · subst h167; rfl
                by_cases h183 : k = 183
                · subst h183; rfl
                by_cases h203 : k = 203
                · subst h203; rfl
                · simp only [va_up, h60, h126, h127, h128, h141, h160, h161, h162, h163, h165, h166, h167, h183, h203, if_false]
              rw [eG] at hW
              clear eG
              exact Jk167 d58_G60 d58_G126 d58_G127 d58_G128 c68_G160 c68_G161 c68_G162 c68_G163 c68_G166 c68_G167 d58_G183 d58_G203 d58_P66 d58_P181 d58_P182 d58_P186 d58_P187 d58_U184 d58_V0 d58_V1 d58_V2 d58_V6 d58_V12 w24 H _ ls hr hW hT hP hD hS (lv_sub hl [0, 3] rfl)
            · replace hr := iteF c71 hr
              refine lv_aload_n hx hb dX11_write_74 rfl (lv_at hl 0 rfl) ?_
              obtain ⟨i25, hi25⟩ := hW.o11 hk_this
              replace hr := nnS hr
              obtain ⟨a75, hn75, hr⟩ := hr
              have hk_a75 : kd a75 = 9 := hT.1 234 _ _ hn75
              refine va_get (D := (dC, dI)) (ci := 11) (v := .ref (ad a75)) (C := RX11) (T := TX11) (N := 17) hx hb hts inX11 hown hK hP i25 hi25 rfl 14 (by decide) (hts (.fieldLink RX11 87 "SpellTurner" "textWords" "LSpellTurner$TextWords;") ic_108) (fun _ h9 => h9) (congrArg (fun o => some (va_re ad o)) hn75) dX11_write_75 ?_
              obtain ⟨i26, hi26⟩ := hW.o8 hk_a75
              refine va_get (D := (dC, dI)) (ci := 8) (v := .int (c68_G163 a75)) (C := RX8) (T := TX8) (N := 8) hx hb hts inX8 hown hK hP i26 hi26 rfl 3 (by decide) (hts (.fieldLink RX11 251 "SpellTurner$TextWords" "isName" "Z") ic_484) (fun _ h9 => h9) rfl dX11_write_78 ?_
              replace hr := jnS hr
              obtain ⟨j161, hj161, hr⟩ := hr
              have Jj161 : ∀ (c161_G60 : Nat → Int32) (c161_G126 : Nat → Int32) (c161_G127 : Nat → Int32) (c161_G128 : Nat → Int32) (c161_G183 : Nat → Int32) (c161_G203 : Nat → Int32) (c161_P66 : Nat → Option Nat) (c161_P181 : Nat → Option Nat) (c161_P182 : Nat → Option Nat) (c161_P186 : Nat → Option Nat) (c161_P187 : Nat → Option Nat) (c161_U184 : Nat → Int64) (c161_V0 : Nat → Nat → Int32) (c161_V1 : Nat → Nat → Int32) (c161_V2 : Nat → Nat → Int32) (c161_V6 : Nat → Nat → Int32) (c161_V12 : Nat → Nat → Int32) (ws : va_W) (H : Heap) (locs : List Loc) (ls : Array Slot), j161 c161_G60 c161_G126 c161_G127 c161_G128 c161_G183 c161_G203 c161_P66 c161_P181 c161_P182 c161_P186 c161_P187 c161_U184 c161_V0 c161_V1 c161_V2 c161_V6 c161_V12 = some (r, c_G60, c_G124, c_G125, c_G126, c_G127, c_G128, c_G141, c_G160, c_G161, c_G162, c_G163, c_G165, c_G166, c_G167, c_G183, c_G203, c_P66, c_P120, c_P121, c_P122, c_P123, c_P164, c_P181, c_P182, c_P186, c_P187, c_U184, c_V0, c_V1, c_V2, c_V6, c_V12) → LW ws ad kk kd ln (va_up (va_up (va_up (va_up (va_up (va_up (va_up (va_up (va_up (va_up (va_up (va_up (va_up (va_up G 60 c161_G60) 126 c161_G126) 127 c161_G127) 128 c161_G128) 141 c4_G141) 160 c68_G160) 161 c68_G161) 162 c68_G162) 163 c68_G163) 165 c45_G165) 166 c68_G166) 167 c68_G167) 183 c161_G183) 203 c161_G203) (va_up (va_up (va_up (va_up (va_up (va_up P 66 c161_P66) 164 c45_P164) 181 c161_P181) 182 c161_P182) 186 c161_P186) 187 c161_P187) (va_up U 184 c161_U184) (va_up (va_up (va_up (va_up (va_up V 0 c161_V0) 1 c161_V1) 2 c161_V2) 6 c161_V6) 12 c161_V12) X O → TYP kd (va_up (va_up (va_up (va_up (va_up (va_up P 66 c161_P66) 164 c45_P164) 181 c161_P181) 182 c161_P182) 186 c161_P186) 187 c161_P187) O c161_V0 cnt → va_P (dC, dI) vwCl ws H → va_D A ws → va_S A s.heap H locs → lv_has ls 5 [(0, .ref (ad this)), (1, .int p0), (2, .int p1), (3, .int r4), (4, .int y58_4)] → W p l e ({ frames := 49, cells := 0, slots := 0, locals := 1275 } : Room) s m args below meth c H locs 0 0 Q (F0 m 161 ls []) := by
                intro c161_G60 c161_G126 c161_G127 c161_G128 c161_G183 c161_G203 c161_P66 c161_P181 c161_P182 c161_P186 c161_P187 c161_U184 c161_V0 c161_V1 c161_V2 c161_V6 c161_V12 ws H locs ls hr hW hT hP hD hS hl
                rw [hj161] at hr
                refine lv_iinc (v := (y58_4 + 1)) (lv' := [(4, .int (y58_4 + 1)), (0, .ref (ad this)), (1, .int p0), (2, .int p1), (3, .int r4)]) hx hb dX11_write_161 hl (k := 4) rfl rfl (by decide) rfl (fun ls hl => ?_)
                refine lv_goto (tgt := 58) hx hb dX11_write_164 (by decide) ?_
                exact ih58 (y58_4 + 1) c161_G60 c161_G126 c161_G127 c161_G128 c68_G160 c68_G161 c68_G162 c68_G163 c68_G166 c68_G167 c161_G183 c161_G203 c161_P66 c161_P181 c161_P182 c161_P186 c161_P187 c161_U184 c161_V0 c161_V1 c161_V2 c161_V6 c161_V12 ws H _ ls hr hW hT hP hD hS (lv_sub hl [1, 2, 3, 4, 0] rfl)
              refine lv_if_eq (tgt := 94) hx hb dX11_write_81 (by decide) (fun c81 => ?_) (fun c81 => ?_)
              · replace hr := iteT c81 hr
                refine lv_aload_n hx hb dX11_write_94 rfl (lv_at hl 0 rfl) ?_
                obtain ⟨i27, hi27⟩ := hW.o11 hk_this
                replace hr := nnS hr
                obtain ⟨a95, hn95, hr⟩ := hr
                have hk_a95 : kd a95 = 9 := hT.1 234 _ _ hn95
                refine va_get (D := (dC, dI)) (ci := 11) (v := .ref (ad a95)) (C := RX11) (T := TX11) (N := 17) hx hb hts inX11 hown hK hP i27 hi27 rfl 14 (by decide) (hts (.fieldLink RX11 87 "SpellTurner" "textWords" "LSpellTurner$TextWords;") ic_108) (fun _ h9 => h9) (congrArg (fun o => some (va_re ad o)) hn95) dX11_write_95 ?_
                obtain ⟨i28, hi28⟩ := hW.o8 hk_a95
                refine va_get (D := (dC, dI)) (ci := 8) (v := .int (c68_G161 a95)) (C := RX8) (T := TX8) (N := 8) hx hb hts inX8 hown hK hP i28 hi28 rfl 1 (by decide) (hts (.fieldLink RX11 258 "SpellTurner$TextWords" "length" "I") ic_110) (fun _ h9 => h9) rfl dX11_write_98 ?_
                refine lv_bipush (v := 24) hx hb dX11_write_101 (by decide +kernel) ?_
                refine lv_icmp_le (tgt := 116) hx hb dX11_write_103 (by decide) (fun c103 => ?_) (fun c103 => ?_)
                · replace hr := iteT c103 hr
                  refine lv_aload_n hx hb dX11_write_116 rfl (lv_at hl 0 rfl) ?_
                  obtain ⟨i29, hi29⟩ := hW.o11 hk_this
                  replace hr := nnS hr
                  obtain ⟨a117, hn117, hr⟩ := hr
                  have hk_a117 : kd a117 = 7 := hT.1 235 _ _ hn117
                  refine va_get (D := (dC, dI)) (ci := 11) (v := .ref (ad a117)) (C := RX11) (T := TX11) (N := 17) hx hb hts inX11 hown hK hP i29 hi29 rfl 15 (by decide) (hts (.fieldLink RX11 94 "SpellTurner" "scribe" "LSpellTurner$Scribe;") ic_129) (fun _ h9 => h9) (congrArg (fun o => some (va_re ad o)) hn117) dX11_write_117 ?_
                  refine lv_aload_n hx hb dX11_write_120 rfl (lv_at hl 0 rfl) ?_
                  obtain ⟨i30, hi30⟩ := hW.o11 hk_this
                  replace hr := nnS hr
                  obtain ⟨a121, hn121, hr⟩ := hr
                  have hk_a121 : kd a121 = 9 := hT.1 234 _ _ hn121
                  refine va_get (D := (dC, dI)) (ci := 11) (v := .ref (ad a121)) (C := RX11) (T := TX11) (N := 17) hx hb hts inX11 hown hK hP i30 hi30 rfl 14 (by decide) (hts (.fieldLink RX11 87 "SpellTurner" "textWords" "LSpellTurner$TextWords;") ic_108) (fun _ h9 => h9) (congrArg (fun o => some (va_re ad o)) hn121) dX11_write_121 ?_
                  refine lv_aload_n hx hb dX11_write_124 rfl (lv_at hl 0 rfl) ?_
                  obtain ⟨i31, hi31⟩ := hW.o11 hk_this
                  replace hr := nnS hr
                  obtain ⟨a125, hn125, hr⟩ := hr
                  have hk_a125 : kd a125 = 10 := hT.1 226 _ _ hn125
                  refine va_get (D := (dC, dI)) (ci := 11) (v := .ref (ad a125)) (C := RX11) (T := TX11) (N := 17) hx hb hts inX11 hown hK hP i31 hi31 rfl 6 (by decide) (hts (.fieldLink RX11 44 "SpellTurner" "turner" "LSpellTurner$Turner;") ic_340) (fun _ h9 => h9) (congrArg (fun o => some (va_re ad o)) hn125) dX11_write_125 ?_
                  refine lv_aload_n hx hb dX11_write_128 rfl (lv_at hl 0 rfl) ?_
                  obtain ⟨i32, hi32⟩ := hW.o11 hk_this
                  replace hr := nnS hr
                  obtain ⟨a129, hn129, hr⟩ := hr
                  have hk_a129 : kd a129 = 302 := hT.1 221 _ _ hn129
                  refine va_get (D := (dC, dI)) (ci := 11) (v := .ref (ad a129)) (C := RX11) (T := TX11) (N := 17) hx hb hts inX11 hown hK hP i32 hi32 rfl 1 (by decide) (hts (.fieldLink RX11 18 "SpellTurner" "reforms" "[LSpellTurner$Reform;") ic_56) (fun _ h9 => h9) (congrArg (fun o => some (va_re ad o)) hn129) dX11_write_129 ?_
                  refine lv_iload_n hx hb dX11_write_132 rfl (lv_at hl 1 rfl) ?_
                  refine lv_iload_n hx hb dX11_write_133 rfl (lv_at hl 2 rfl) ?_
                  refine lv_aload_n hx hb dX11_write_134 rfl (lv_at hl 0 rfl) ?_
                  obtain ⟨i33, hi33⟩ := hW.o11 hk_this
                  replace hr := nnS hr
                  obtain ⟨a135, hn135, hr⟩ := hr
                  have hk_a135 : kd a135 = 8 := hT.1 220 _ _ hn135
                  refine va_get (D := (dC, dI)) (ci := 11) (v := .ref (ad a135)) (C := RX11) (T := TX11) (N := 17) hx hb hts inX11 hown hK hP i33 hi33 rfl 0 (by decide) (hts (.fieldLink RX11 12 "SpellTurner" "tape" "LSpellTurner$Tape;") ic_48) (fun _ h9 => h9) (congrArg (fun o => some (va_re ad o)) hn135) dX11_write_135 ?_
                  obtain ⟨i34, hi34⟩ := hW.o7 hk_a135
                  replace hr := nnS hr
                  obtain ⟨a138, hn138, hr⟩ := hr
                  have hk_a138 : kd a138 = 100 := hT.1 140 _ _ hn138
                  refine va_get (D := (dC, dI)) (ci := 7) (v := .ref (ad a138)) (C := RX7) (T := TX7) (N := 2) hx hb hts inX7 hown hK hP i34 hi34 rfl 0 (by decide) (hts (.fieldLink RX11 120 "SpellTurner$Tape" "bytes" "[B") ic_107) (fun _ h9 => h9) (congrArg (fun o => some (va_re ad o)) hn138) dX11_write_138 ?_
                  refine lv_aload_n hx hb dX11_write_141 rfl (lv_at hl 0 rfl) ?_
                  obtain ⟨i35, hi35⟩ := hW.o11 hk_this
                  replace hr := nnS hr
                  obtain ⟨a142, hn142, hr⟩ := hr
                  have hk_a142 : kd a142 = 9 := hT.1 234 _ _ hn142
                  refine va_get (D := (dC, dI)) (ci := 11) (v := .ref (ad a142)) (C := RX11) (T := TX11) (N := 17) hx hb hts inX11 hown hK hP i35 hi35 rfl 14 (by decide) (hts (.fieldLink RX11 87 "SpellTurner" "textWords" "LSpellTurner$TextWords;") ic_108) (fun _ h9 => h9) (congrArg (fun o => some (va_re ad o)) hn142) dX11_write_142 ?_
                  obtain ⟨i36, hi36⟩ := hW.o8 hk_a142
                  refine va_get (D := (dC, dI)) (ci := 8) (v := .int (c68_G160 a142)) (C := RX8) (T := TX8) (N := 8) hx hb hts inX8 hown hK hP i36 hi36 rfl 0 (by decide) (hts (.fieldLink RX11 262 "SpellTurner$TextWords" "start" "I") ic_109) (fun _ h9 => h9) rfl dX11_write_145 ?_
                  refine lv_aload_n hx hb dX11_write_148 rfl (lv_at hl 0 rfl) ?_
                  obtain ⟨i37, hi37⟩ := hW.o11 hk_this
                  replace hr := nnS hr
                  obtain ⟨a149, hn149, hr⟩ := hr
                  have hk_a149 : kd a149 = 9 := hT.1 234 _ _ hn149
                  refine va_get (D := (dC, dI)) (ci := 11) (v := .ref (ad a149)) (C := RX11) (T := TX11) (N := 17) hx hb hts inX11 hown hK hP i37 hi37 rfl 14 (by decide) (hts (.fieldLink RX11 87 "SpellTurner" "textWords" "LSpellTurner$TextWords;") ic_108) (fun _ h9 => h9) (congrArg (fun o => some (va_re ad o)) hn149) dX11_write_149 ?_
                  obtain ⟨i38, hi38⟩ := hW.o8 hk_a149
                  refine va_get (D := (dC, dI)) (ci := 8) (v := .int (c68_G161 a149)) (C := RX8) (T := TX8) (N := 8) hx hb hts inX8 hown hK hP i38 hi38 rfl 1 (by decide) (hts (.fieldLink RX11 258 "SpellTurner$TextWords" "length" "I") ic_110) (fun _ h9 => h9) rfl dX11_write_152 ?_
                  replace hr := b14S hr
                  obtain ⟨r155, c155_G60, c155_G183, c155_G203, c155_P66, c155_P181, c155_P182, c155_P186, c155_P187, c155_U184, c155_V0, c155_V1, c155_V2, c155_V12, hc155, hr⟩ := hr
                  have hFc := fr_all hD hS hA
                  obtain ⟨i39, hi39⟩ := hW.o9 hk_a125
                  refine va_calle (va_runV (As := [.ref (ad a129), .int p0, .int p1, .ref (ad a138), .int (c68_G160 a142), .int (c68_G161 a149)]) (rest := [.ref (ad a121), .ref (ad a117)]) ⟨hx, hb, hml, hown, hts⟩ (m_X9_through l dC dI kk ad H.size w24 (va_up (va_up (va_up (va_up (va_up (va_up (va_up (va_up (va_up (va_up (va_up (va_up (va_up (va_up (va_up (va_up (va_up (va_up (va_up (va_up G 60 d58_G60) 126 d58_G126) 127 d58_G127) 128 d58_G128) 141 c4_G141) 160 d58_G160) 161 d58_G161) 162 d58_G162) 163 d58_G163) 165 c45_G165) 166 d58_G166) 167 d58_G167) 183 d58_G183) 203 d58_G203) 160 c68_G160) 161 c68_G161) 162 c68_G162) 163 c68_G163) 166 c68_G166) 167 c68_G167) (va_up (va_up (va_up (va_up (va_up (va_up P 66 d58_P66) 164 c45_P164) 181 d58_P181) 182 d58_P182) 186 d58_P186) 187 d58_P187) (va_up U 184 d58_U184) (va_up (va_up (va_up (va_up (va_up V 0 d58_V0) 1 d58_V1) 2 d58_V2) 6 d58_V6) 12 d58_V12) X O kd ln cnt a125 a129 p0 p1 a138 (c68_G160 a142) (c68_G161 a149) hk_a125 hk_a129 hk_a138 hW hT r155 c155_G60 c155_G183 c155_G203 c155_P66 c155_P181 c155_P182 c155_P186 c155_P187 c155_U184 c155_V0 c155_V1 c155_V2 c155_V12 hc155) (cwV 6 hts gc_RX11_X9_through_168 rfl rfl rfl (by decide +kernel) ⟨Nat.le_of_ble_eq_true rfl, Nat.le_of_ble_eq_true rfl⟩) ⟨fun a U g mk q => by obtain ⟨q0, q1, qP, qK, qD⟩ := q; exact ⟨q0, q1, qP, va_K.moved (u := U) (U := U.calling g mk a) (Vm.Alike.refl U.vm) qK, qD⟩, va_recv hK hP (ci := 9) (q0 := i39) rfl hi39, fun U hU hW => ⟨rfl, by rw [hU], by rw [hU]; exact hP, va_K.moved hW.alike hK, hD.weaken (fun _ _ _ _ => trivial)⟩⟩ rfl rfl hl.1 rfl (lv_room (Nat.le_of_ble_eq_true rfl)) dX11_write_155 ⟨Nat.le_of_ble_eq_true rfl, Nat.le_of_ble_eq_true rfl⟩) hS (fun q _ h => hFc q h) hFc (fun qo155 w40 t H1 locs ht hvm hw hB hz1 hk1 hS => ?_)
                  obtain ⟨hw0, hW, hT, hkr155⟩ := hw
                  subst hw0
                  obtain ⟨hP1, hK1, hD1⟩ := hB
                  rw [ht] at hP1
                  obtain ⟨hP, hD⟩ := jn_all (w1 := w40) hFc hP1 hD1
                  replace hP : va_P (dC, dI) vwCl w40 H1 := hP
                  replace hD : va_D A w40 := hD
                  clear hFc hP1 hK1 hD1 hk1 hz1 ht hvm
                  generalize H1 = H at hP hS ⊢
                  replace hr := b5S hr
                  obtain ⟨c158_G126, c158_G127, c158_G128, c158_V0, c158_V6, hc158, hr⟩ := hr
                  have hFc := fr_all hD hS hA
                  obtain ⟨i41, hi41⟩ := hW.o6 hk_a117
                  refine va_callv (va_runV (As := [.ref (ad a121), .ref (ad r155)]) (rest := []) ⟨hx, hb, hml, hown, hts⟩ (m_X6_put l dC dI kk ad H.size w40 (va_up (va_up (va_up (va_up (va_up (va_up (va_up (va_up (va_up (va_up (va_up (va_up (va_up (va_up (va_up (va_up (va_up (va_up (va_up (va_up (va_up (va_up (va_up G 60 d58_G60) 126 d58_G126) 127 d58_G127) 128 d58_G128) 141 c4_G141) 160 d58_G160) 161 d58_G161) 162 d58_G162) 163 d58_G163) 165 c45_G165) 166 d58_G166) 167 d58_G167) 183 d58_G183) 203 d58_G203) 160 c68_G160) 161 c68_G161) 162 c68_G162) 163 c68_G163) 166 c68_G166) 167 c68_G167) 60 c155_G60) 183 c155_G183) 203 c155_G203) (va_up (va_up (va_up (va_up (va_up (va_up (va_up (va_up (va_up (va_up (va_up P 66 d58_P66) 164 c45_P164) 181 d58_P181) 182 d58_P182) 186 d58_P186) 187 d58_P187) 66 c155_P66) 181 c155_P181) 182 c155_P182) 186 c155_P186) 187 c155_P187) (va_up (va_up U 184 d58_U184) 184 c155_U184) (va_up (va_up (va_up (va_up (va_up (va_up (va_up (va_up (va_up V 0 d58_V0) 1 d58_V1) 2 d58_V2) 6 d58_V6) 12 d58_V12) 0 c155_V0) 1 c155_V1) 2 c155_V2) 12 c155_V12) X O kd ln cnt a117 a121 r155 hk_a117 hk_a121 hkr155 hW hT c158_G126 c158_G127 c158_G128 c158_V0 c158_V6 hc158) (cwV 2 hts gc_RX11_X6_put_265 rfl rfl rfl (by decide +kernel) ⟨Nat.le_of_ble_eq_true rfl, Nat.le_of_ble_eq_true rfl⟩) ⟨fun a U g mk q => by obtain ⟨q0, q1, qP, qK, qD⟩ := q; exact ⟨q0, q1, qP, va_K.moved (u := U) (U := U.calling g mk a) (Vm.Alike.refl U.vm) qK, qD⟩, va_recv hK hP (ci := 6) (q0 := i41) rfl hi41, fun U hU hW => ⟨rfl, by rw [hU], by rw [hU]; exact hP, va_K.moved hW.alike hK, hD.weaken (fun _ _ _ _ => trivial)⟩⟩ rfl rfl hl.1 rfl (lv_room (Nat.le_of_ble_eq_true rfl)) dX11_write_158 ⟨Nat.le_of_ble_eq_true rfl, Nat.le_of_ble_eq_true rfl⟩) hS (fun q _ h => hFc q h) hFc (fun w42 t H1 locs ht hvm hw hB hz1 hk1 hS => ?_)
                  obtain ⟨hW, hT⟩ := hw
                  obtain ⟨hP1, hK1, hD1⟩ := hB
                  rw [ht] at hP1
                  obtain ⟨hP, hD⟩ := jn_all (w1 := w42) hFc hP1 hD1
                  replace hP : va_P (dC, dI) vwCl w42 H1 := hP
                  replace hD : va_D A w42 := hD
                  clear hFc hP1 hK1 hD1 hk1 hz1 ht hvm
                  generalize H1 = H at hP hS ⊢
                  have eG : (va_up (va_up (va_up (va_up (va_up (va_up (va_up (va_up (va_up (va_up (va_up (va_up (va_up (va_up (va_up (va_up (va_up (va_up (va_up (va_up (va_up (va_up (va_up (va_up (va_up (va_up G 60 d58_G60) 126 d58_G126) 127 d58_G127) 128 d58_G128) 141 c4_G141) 160 d58_G160) 161 d58_G161) 162 d58_G162) 163 d58_G163) 165 c45_G165) 166 d58_G166) 167 d58_G167) 183 d58_G183) 203 d58_G203) 160 c68_G160) 161 c68_G161) 162 c68_G162) 163 c68_G163) 166 c68_G166) 167 c68_G167) 60 c155_G60) 183 c155_G183) 203 c155_G203) 126 c158_G126) 127 c158_G127) 128 c158_G128) = (va_up (va_up (va_up (va_up (va_up (va_up (va_up (va_up (va_up (va_up (va_up (va_up (va_up (va_up G 60 c155_G60) 126 c158_G126) 127 c158_G127) 128 c158_G128) 141 c4_G141) 160 c68_G160) 161 c68_G161) 162 c68_G162) 163 c68_G163) 165 c45_G165) 166 c68_G166) 167 c68_G167) 183 c155_G183) 203 c155_G203) := by
                    funext k
                    by_cases h60 : k = 60
                    · subst h60; rfl
                    by_cases h126 : k = 126
                    · subst h126; rfl
                    by_cases h127 : k = 127
                    · subst h127; rfl
                    by_cases h128 : k = 128
                    · subst h128; rfl
                    by_cases h141 : k = 141
                    · subst h141; rfl
                    by_cases h160 : k = 160
                    · subst h160; rfl
                    by_cases h161 : k = 161
                    · subst h161; rfl
                    by_cases h162 : k = 162
                    · subst h162; rfl
                    by_cases h163 : k = 163
                    · subst h163; rfl
                    by_cases h165 : k = 165
                    · subst h165; rfl
                    by_cases h166 : k = 166
                    · subst h166; rfl
                    by_cases h167 : k = 167
                    · subst h167; rfl
                    by_cases h183 : k = 183
                    · subst h183; rfl
                    by_cases h203 : k = 203
                    · subst h203; rfl
                    · simp only [va_up, h60, h126, h127, h128, h141, h160, h161, h162, h163, h165, h166, h167, h183, h203, if_false]
                  rw [eG] at hW
                  clear eG
                  have eP : (va_up (va_up (va_up (va_up (va_up (va_up (va_up (va_up (va_up (va_up (va_up P 66 d58_P66) 164 c45_P164) 181 d58_P181) 182 d58_P182) 186 d58_P186) 187 d58_P187) 66 c155_P66) 181 c155_P181) 182 c155_P182) 186 c155_P186) 187 c155_P187) = (va_up (va_up (va_up (va_up (va_up (va_up P 66 c155_P66) 164 c45_P164) 181 c155_P181) 182 c155_P182) 186 c155_P186) 187 c155_P187) := by
                    funext k
                    by_cases h66 : k = 66
                    · subst h66; rfl
                    by_cases h164 : k = 164
                    · subst h164; rfl
                    by_cases h181 : k = 181
                    · subst h181; rfl
                    by_cases h182 : k = 182
                    · subst h182; rfl
                    by_cases h186 : k = 186
                    · subst h186; rfl
                    by_cases h187 : k = 187
                    · subst h187; rfl
                    · simp only [va_up, h66, h164, h181, h182, h186, h187, if_false]
                  rw [eP] at hW
                  rw [eP] at hT
                  clear eP
                  have eU : (va_up (va_up U 184 d58_U184) 184 c155_U184) = (va_up U 184 c155_U184) := by
                    funext k
                    by_cases h184 : k = 184
                    · subst h184; rfl
                    · simp only [va_up, h184, if_false]
                  rw [eU] at hW
                  clear eU
                  have eV : (va_up (va_up (va_up (va_up (va_up (va_up (va_up (va_up (va_up (va_up (va_up V 0 d58_V0) 1 d58_V1) 2 d58_V2) 6 d58_V6) 12 d58_V12) 0 c155_V0) 1 c155_V1) 2 c155_V2) 12 c155_V12) 0 c158_V0) 6 c158_V6) = (va_up (va_up (va_up (va_up (va_up V 0 c158_V0) 1 c155_V1) 2 c155_V2) 6 c158_V6) 12 c155_V12) := by
                    funext k
                    by_cases h0 : k = 0
                    · subst h0; rfl
                    by_cases h1 : k = 1
                    · subst h1; rfl
                    by_cases h2 : k = 2
                    · subst h2; rfl
                    by_cases h6 : k = 6
                    · subst h6; rfl
                    by_cases h12 : k = 12
                    · subst h12; rfl
                    · simp only [va_up, h0, h1, h2, h6, h12, if_false]
                  rw [eV] at hW
                  clear eV
                  exact Jj161 c155_G60 c158_G126 c158_G127 c158_G128 c155_G183 c155_G203 c155_P66 c155_P181 c155_P182 c155_P186 c155_P187 c155_U184 c158_V0 c155_V1 c155_V2 c158_V6 c155_V12 w42 H _ ls hr hW hT hP hD hS (lv_sub hl [0, 1, 2, 3, 4] rfl)
                · replace hr := iteF c103 hr
                  refine lv_aload_n hx hb dX11_write_106 rfl (lv_at hl 0 rfl) ?_
                  obtain ⟨i43, hi43⟩ := hW.o11 hk_this
                  replace hr := nnS hr
                  obtain ⟨a107, hn107, hr⟩ := hr
                  have hk_a107 : kd a107 = 7 := hT.1 235 _ _ hn107
                  refine va_get (D := (dC, dI)) (ci := 11) (v := .ref (ad a107)) (C := RX11) (T := TX11) (N := 17) hx hb hts inX11 hown hK hP i43 hi43 rfl 15 (by decide) (hts (.fieldLink RX11 94 "SpellTurner" "scribe" "LSpellTurner$Scribe;") ic_129) (fun _ h9 => h9) (congrArg (fun o => some (va_re ad o)) hn107) dX11_write_107 ?_
                  replace hr := b1S hr
                  obtain ⟨c110_V6, hc110, hr⟩ := hr
                  have hFc := fr_all hD hS hA
                  obtain ⟨i44, hi44⟩ := hW.o6 hk_a107
                  refine va_callv (va_runV (As := []) (rest := []) ⟨hx, hb, hml, hown, hts⟩ (m_X6_leaveLost l dC dI kk ad H.size w24 (va_up (va_up (va_up (va_up (va_up (va_up (va_up (va_up (va_up (va_up (va_up (va_up (va_up (va_up (va_up (va_up (va_up (va_up (va_up (va_up G 60 d58_G60) 126 d58_G126) 127 d58_G127) 128 d58_G128) 141 c4_G141) 160 d58_G160) 161 d58_G161) 162 d58_G162) 163 d58_G163) 165 c45_G165) 166 d58_G166) 167 d58_G167) 183 d58_G183) 203 d58_G203) 160 c68_G160) 161 c68_G161) 162 c68_G162) 163 c68_G163) 166 c68_G166) 167 c68_G167) (va_up (va_up (va_up (va_up (va_up (va_up P 66 d58_P66) 164 c45_P164) 181 d58_P181) 182 d58_P182) 186 d58_P186) 187 d58_P187) (va_up U 184 d58_U184) (va_up (va_up (va_up (va_up (va_up V 0 d58_V0) 1 d58_V1) 2 d58_V2) 6 d58_V6) 12 d58_V12) X O kd ln cnt a107 hk_a107 hW hT c110_V6 hc110) (cwV 0 hts gc_RX11_X6_leaveLost_259 rfl rfl rfl (by decide +kernel) ⟨Nat.le_of_ble_eq_true rfl, Nat.le_of_ble_eq_true rfl⟩) ⟨fun a U g mk q => by obtain ⟨q0, q1, qP, qK, qD⟩ := q; exact ⟨q0, q1, qP, va_K.moved (u := U) (U := U.calling g mk a) (Vm.Alike.refl U.vm) qK, qD⟩, va_recv hK hP (ci := 6) (q0 := i44) rfl hi44, fun U hU hW => ⟨rfl, by rw [hU], by rw [hU]; exact hP, va_K.moved hW.alike hK, hD.weaken (fun _ _ _ _ => trivial)⟩⟩ rfl rfl hl.1 rfl (lv_room (Nat.le_of_ble_eq_true rfl)) dX11_write_110 ⟨Nat.le_of_ble_eq_true rfl, Nat.le_of_ble_eq_true rfl⟩) hS (fun q _ h => hFc q h) hFc (fun w45 t H1 locs ht hvm hw hB hz1 hk1 hS => ?_)
                  obtain ⟨hW, hT⟩ := hw
                  obtain ⟨hP1, hK1, hD1⟩ := hB
                  rw [ht] at hP1
                  obtain ⟨hP, hD⟩ := jn_all (w1 := w45) hFc hP1 hD1
                  replace hP : va_P (dC, dI) vwCl w45 H1 := hP
                  replace hD : va_D A w45 := hD
                  clear hFc hP1 hK1 hD1 hk1 hz1 ht hvm
                  generalize H1 = H at hP hS ⊢
                  refine lv_goto (tgt := 161) hx hb dX11_write_113 (by decide) ?_
                  have eG : (va_up (va_up (va_up (va_up (va_up (va_up (va_up (va_up (va_up (va_up (va_up (va_up (va_up (va_up (va_up (va_up (va_up (va_up (va_up (va_up G 60 d58_G60) 126 d58_G126) 127 d58_G127) 128 d58_G128) 141 c4_G141) 160 d58_G160) 161 d58_G161) 162 d58_G162) 163 d58_G163) 165 c45_G165) 166 d58_G166) 167 d58_G167) 183 d58_G183) 203 d58_G203) 160 c68_G160) 161 c68_G161) 162 c68_G162) 163 c68_G163) 166 c68_G166) 167 c68_G167) = (va_up (va_up (va_up (va_up (va_up (va_up (va_up (va_up (va_up (va_up (va_up (va_up (va_up (va_up G 60 d58_G60) 126 d58_G126) 127 d58_G127) 128 d58_G128) 141 c4_G141) 160 c68_G160) 161 c68_G161) 162 c68_G162) 163 c68_G163) 165 c45_G165) 166 c68_G166) 167 c68_G167) 183 d58_G183) 203 d58_G203) := by
                    funext k
                    by_cases h60 : k = 60
                    · subst h60; rfl
                    by_cases h126 : k = 126
                    · subst h126; rfl
                    by_cases h127 : k = 127
                    · subst h127; rfl
                    by_cases h128 : k = 128
                    · subst h128; rfl
                    by_cases h141 : k = 141
                    · subst h141; rfl
                    by_cases h160 : k = 160
                    · subst h160; rfl
                    by_cases h161 : k = 161
                    · subst h161; rfl
                    by_cases h162 : k = 162
                    · subst h162; rfl
                    by_cases h163 : k = 163
                    · subst h163; rfl
                    by_cases h165 : k = 165
                    · subst h165; rfl
                    by_cases h166 : k = 166
                    · subst h166; rfl
                    by_cases h167 : k = 167
                    · subst h167; rfl
                    by_cases h183 : k = 183
                    · subst h183; rfl
                    by_cases h203 : k = 203
                    · subst h203; rfl
                    · simp only [va_up, h60, h126, h127, h128, h141, h160, h161, h162, h163, h165, h166, h167, h183, h203, if_false]
                  rw [eG] at hW
                  clear eG
                  have eV : (va_up (va_up (va_up (va_up (va_up (va_up V 0 d58_V0) 1 d58_V1) 2 d58_V2) 6 d58_V6) 12 d58_V12) 6 c110_V6) = (va_up (va_up (va_up (va_up (va_up V 0 d58_V0) 1 d58_V1) 2 d58_V2) 6 c110_V6) 12 d58_V12) := by
                    funext k
                    by_cases h0 : k = 0
                    · subst h0; rfl
                    by_cases h1 : k = 1
                    · subst h1; rfl
                    by_cases h2 : k = 2
                    · subst h2; rfl
                    by_cases h6 : k = 6
                    · subst h6; rfl
                    by_cases h12 : k = 12
                    · subst h12; rfl
                    · simp only [va_up, h0, h1, h2, h6, h12, if_false]
                  rw [eV] at hW
                  clear eV
                  exact Jj161 d58_G60 d58_G126 d58_G127 d58_G128 d58_G183 d58_G203 d58_P66 d58_P181 d58_P182 d58_P186 d58_P187 d58_U184 d58_V0 d58_V1 d58_V2 c110_V6 d58_V12 w45 H _ ls hr hW hT hP hD hS (lv_sub hl [0, 1, 2, 3, 4] rfl)
              · replace hr := iteF c81 hr
                refine lv_aload_n hx hb dX11_write_84 rfl (lv_at hl 0 rfl) ?_
                obtain ⟨i46, hi46⟩ := hW.o11 hk_this
                replace hr := nnS hr
                obtain ⟨a85, hn85, hr⟩ := hr
                have hk_a85 : kd a85 = 7 := hT.1 235 _ _ hn85
                refine va_get (D := (dC, dI)) (ci := 11) (v := .ref (ad a85)) (C := RX11) (T := TX11) (N := 17) hx hb hts inX11 hown hK hP i46 hi46 rfl 15 (by decide) (hts (.fieldLink RX11 94 "SpellTurner" "scribe" "LSpellTurner$Scribe;") ic_129) (fun _ h9 => h9) (congrArg (fun o => some (va_re ad o)) hn85) dX11_write_85 ?_
                replace hr := b1S hr
                obtain ⟨c88_V6, hc88, hr⟩ := hr
                have hFc := fr_all hD hS hA
                obtain ⟨i47, hi47⟩ := hW.o6 hk_a85
                refine va_callv (va_runV (As := []) (rest := []) ⟨hx, hb, hml, hown, hts⟩ (m_X6_leaveName l dC dI kk ad H.size w24 (va_up (va_up (va_up (va_up (va_up (va_up (va_up (va_up (va_up (va_up (va_up (va_up (va_up (va_up (va_up (va_up (va_up (va_up (va_up (va_up G 60 d58_G60) 126 d58_G126) 127 d58_G127) 128 d58_G128) 141 c4_G141) 160 d58_G160) 161 d58_G161) 162 d58_G162) 163 d58_G163) 165 c45_G165) 166 d58_G166) 167 d58_G167) 183 d58_G183) 203 d58_G203) 160 c68_G160) 161 c68_G161) 162 c68_G162) 163 c68_G163) 166 c68_G166) 167 c68_G167) (va_up (va_up (va_up (va_up (va_up (va_up P 66 d58_P66) 164 c45_P164) 181 d58_P181) 182 d58_P182) 186 d58_P186) 187 d58_P187) (va_up U 184 d58_U184) (va_up (va_up (va_up (va_up (va_up V 0 d58_V0) 1 d58_V1) 2 d58_V2) 6 d58_V6) 12 d58_V12) X O kd ln cnt a85 hk_a85 hW hT c88_V6 hc88) (cwV 0 hts gc_RX11_X6_leaveName_255 rfl rfl rfl (by decide +kernel) ⟨Nat.le_of_ble_eq_true rfl, Nat.le_of_ble_eq_true rfl⟩) ⟨fun a U g mk q => by obtain ⟨q0, q1, qP, qK, qD⟩ := q; exact ⟨q0, q1, qP, va_K.moved (u := U) (U := U.calling g mk a) (Vm.Alike.refl U.vm) qK, qD⟩, va_recv hK hP (ci := 6) (q0 := i47) rfl hi47, fun U hU hW => ⟨rfl, by rw [hU], by rw [hU]; exact hP, va_K.moved hW.alike hK, hD.weaken (fun _ _ _ _ => trivial)⟩⟩ rfl rfl hl.1 rfl (lv_room (Nat.le_of_ble_eq_true rfl)) dX11_write_88 ⟨Nat.le_of_ble_eq_true rfl, Nat.le_of_ble_eq_true rfl⟩) hS (fun q _ h => hFc q h) hFc (fun w48 t H1 locs ht hvm hw hB hz1 hk1 hS => ?_)
                obtain ⟨hW, hT⟩ := hw
                obtain ⟨hP1, hK1, hD1⟩ := hB
                rw [ht] at hP1
                obtain ⟨hP, hD⟩ := jn_all (w1 := w48) hFc hP1 hD1
                replace hP : va_P (dC, dI) vwCl w48 H1 := hP
                replace hD : va_D A w48 := hD
                clear hFc hP1 hK1 hD1 hk1 hz1 ht hvm
                generalize H1 = H at hP hS ⊢
                refine lv_goto (tgt := 161) hx hb dX11_write_91 (by decide) ?_
                have eG : (va_up (va_up (va_up (va_up (va_up (va_up (va_up (va_up (va_up (va_up (va_up (va_up (va_up (va_up (va_up (va_up (va_up (va_up (va_up (va_up G 60 d58_G60) 126 d58_G126) 127 d58_G127) 128 d58_G128) 141 c4_G141) 160 d58_G160) 161 d58_G161) 162 d58_G162) 163 d58_G163) 165 c45_G165) 166 d58_G166) 167 d58_G167) 183 d58_G183) 203 d58_G203) 160 c68_G160) 161 c68_G161) 162 c68_G162) 163 c68_G163) 166 c68_G166) 167 c68_G167) = (va_up (va_up (va_up (va_up (va_up (va_up (va_up (va_up (va_up (va_up (va_up (va_up (va_up (va_up G 60 d58_G60) 126 d58_G126) 127 d58_G127) 128 d58_G128) 141 c4_G141) 160 c68_G160) 161 c68_G161) 162 c68_G162) 163 c68_G163) 165 c45_G165) 166 c68_G166) 167 c68_G167) 183 d58_G183) 203 d58_G203) := by
                  funext k
                  by_cases h60 : k = 60
                  · subst h60; rfl
                  by_cases h126 : k = 126
                  · subst h126; rfl
                  by_cases h127 : k = 127
                  · subst h127; rfl
                  by_cases h128 : k = 128
                  · subst h128; rfl
                  by_cases h141 : k = 141
                  · subst h141; rfl
                  by_cases h160 : k = 160
                  · subst h160; rfl
                  by_cases h161 : k = 161
                  · subst h161; rfl
                  by_cases h162 : k = 162
                  · subst h162; rfl
                  by_cases h163 : k = 163
                  · subst h163; rfl
                  by_cases h165 : k = 165
                  · subst h165; rfl
                  by_cases h166 : k = 166
                  · subst h166; rfl
                  by_cases h167 : k = 167
                  · subst h167; rfl
                  by_cases h183 : k = 183
                  · subst h183; rfl
                  by_cases h203 : k = 203
                  · subst h203; rfl
                  · simp only [va_up, h60, h126, h127, h128, h141, h160, h161, h162, h163, h165, h166, h167, h183, h203, if_false]
                rw [eG] at hW
                clear eG
                have eV : (va_up (va_up (va_up (va_up (va_up (va_up V 0 d58_V0) 1 d58_V1) 2 d58_V2) 6 d58_V6) 12 d58_V12) 6 c88_V6) = (va_up (va_up (va_up (va_up (va_up V 0 d58_V0) 1 d58_V1) 2 d58_V2) 6 c88_V6) 12 d58_V12) := by
                  funext k
                  by_cases h0 : k = 0
                  · subst h0; rfl
                  by_cases h1 : k = 1
                  · subst h1; rfl
                  by_cases h2 : k = 2
                  · subst h2; rfl
                  by_cases h6 : k = 6
                  · subst h6; rfl
                  by_cases h12 : k = 12
                  · subst h12; rfl
                  · simp only [va_up, h0, h1, h2, h6, h12, if_false]
                rw [eV] at hW
                clear eV
                exact Jj161 d58_G60 d58_G126 d58_G127 d58_G128 d58_G183 d58_G203 d58_P66 d58_P181 d58_P182 d58_P186 d58_P187 d58_U184 d58_V0 d58_V1 d58_V2 c88_V6 d58_V12 w48 H _ ls hr hW hT hP hD hS (lv_sub hl [0, 1, 2, 3, 4] rfl)
      have eG : (va_up (va_up (va_up (va_up (va_up (va_up (va_up (va_up G 141 c4_G141) 162 c45_G162) 165 c45_G165) 166 c45_G166) 167 c45_G167) 126 c52_G126) 127 c52_G127) 128 c52_G128) = (va_up (va_up (va_up (va_up (va_up (va_up (va_up (va_up (va_up (va_up (va_up (va_up (va_up (va_up G 60 (G 60)) 126 c52_G126) 127 c52_G127) 128 c52_G128) 141 c4_G141) 160 (G 160)) 161 (G 161)) 162 c45_G162) 163 (G 163)) 165 c45_G165) 166 c45_G166) 167 c45_G167) 183 (G 183)) 203 (G 203)) := by
        funext k
        by_cases h60 : k = 60
        · subst h60; rfl
        by_cases h126 : k = 126
        · subst h126; rfl
        by_cases h127 : k = 127
        · subst h127; rfl
        by_cases h128 : k = 128
        · subst h128; rfl
        by_cases h141 : k = 141
        · subst h141; rfl
        by_cases h160 : k = 160
        · subst h160; rfl
        by_cases h161 : k = 161
        · subst h161; rfl
        by_cases h162 : k = 162
        · subst h162; rfl
        by_cases h163 : k = 163
        · subst h163; rfl
        by_cases h165 : k = 165
        · subst h165; rfl
        by_cases h166 : k = 166
        · subst h166; rfl
        by_cases h167 : k = 167
        · subst h167; rfl
        by_cases h183 : k = 183
        · subst h183; rfl
        by_cases h203 : k = 203
        · subst h203; rfl
        · simp only [va_up, h60, h126, h127, h128, h141, h160, h161, h162, h163, h165, h166, h167, h183, h203, if_false]
      rw [eG] at hW
      clear eG
      have eP : (va_up P 164 c45_P164) = (va_up (va_up (va_up (va_up (va_up (va_up P 66 (P 66)) 164 c45_P164) 181 (P 181)) 182 (P 182)) 186 (P 186)) 187 (P 187)) := by
        funext k
        by_cases h66 : k = 66
        · subst h66; rfl
        by_cases h164 : k = 164
        · subst h164; rfl
        by_cases h181 : k = 181
        · subst h181; rfl
        by_cases h182 : k = 182
        · subst h182; rfl
        by_cases h186 : k = 186
        · subst h186; rfl
        by_cases h187 : k = 187
        · subst h187; rfl
        · simp only [va_up, h66, h164, h181, h182, h186, h187, if_false]
      rw [eP] at hW
      rw [eP] at hT
      clear eP
      have eU : U = (va_up U 184 (U 184)) := by
        funext k
        by_cases h184 : k = 184
        · subst h184; rfl
        · simp only [va_up, h184, if_false]
      rw [eU] at hW
      clear eU
      have eV : (va_up V 6 c52_V6) = (va_up (va_up (va_up (va_up (va_up V 0 (V 0)) 1 (V 1)) 2 (V 2)) 6 c52_V6) 12 (V 12)) := by
        funext k
        by_cases h0 : k = 0
        · subst h0; rfl
        by_cases h1 : k = 1
        · subst h1; rfl
        by_cases h2 : k = 2
        · subst h2; rfl
        by_cases h6 : k = 6
        · subst h6; rfl
        by_cases h12 : k = 12
        · subst h12; rfl
        · simp only [va_up, h0, h1, h2, h6, h12, if_false]
      rw [eV] at hW
      clear eV
      exact lp58 NN 0 (G 60) c52_G126 c52_G127 c52_G128 (G 160) (G 161) c45_G162 (G 163) c45_G166 c45_G167 (G 183) (G 203) (P 66) (P 181) (P 182) (P 186) (P 187) (U 184) (V 0) (V 1) (V 2) c52_V6 (V 12) w16 H _ ls hr hW hT hP hD hS (lv_sub hl [2, 3, 4, 1, 0] rfl)
    · replace hr := iteF c28 hr
      refine lv_iconst (v := (-1)) hx hb dX11_write_31 (by decide +kernel) ?_
      have eG : (va_up G 141 c4_G141) = (va_up (va_up (va_up (va_up (va_up (va_up (va_up (va_up (va_up (va_up (va_up (va_up (va_up (va_up (va_up (va_up G 60 (G 60)) 124 (G 124)) 125 (G 125)) 126 (G 126)) 127 (G 127)) 128 (G 128)) 141 c4_G141) 160 (G 160)) 161 (G 161)) 162 (G 162)) 163 (G 163)) 165 (G 165)) 166 (G 166)) 167 (G 167)) 183 (G 183)) 203 (G 203)) := by
        funext k
        by_cases h60 : k = 60
        · subst h60; rfl
        by_cases h124 : k = 124
        · subst h124; rfl
        by_cases h125 : k = 125
        · subst h125; rfl
        by_cases h126 : k = 126
        · subst h126; rfl
        by_cases h127 : k = 127
        · subst h127; rfl
        by_cases h128 : k = 128
        · subst h128; rfl
        by_cases h141 : k = 141
        · subst h141; rfl
        by_cases h160 : k = 160
        · subst h160; rfl
        by_cases h161 : k = 161
        · subst h161; rfl
        by_cases h162 : k = 162
        · subst h162; rfl
        by_cases h163 : k = 163
        · subst h163; rfl
        by_cases h165 : k = 165
        · subst h165; rfl
        by_cases h166 : k = 166
        · subst h166; rfl
        by_cases h167 : k = 167
        · subst h167; rfl
        by_cases h183 : k = 183
        · subst h183; rfl
        by_cases h203 : k = 203
        · subst h203; rfl
        · simp only [va_up, h60, h124, h125, h126, h127, h128, h141, h160, h161, h162, h163, h165, h166, h167, h183, h203, if_false]
      rw [eG] at hW
      clear eG
      have eP : P = (va_up (va_up (va_up (va_up (va_up (va_up (va_up (va_up (va_up (va_up P 66 (P 66)) 120 (P 120)) 121 (P 121)) 122 (P 122)) 123 (P 123)) 164 (P 164)) 181 (P 181)) 182 (P 182)) 186 (P 186)) 187 (P 187)) := by
        funext k
        by_cases h66 : k = 66
        · subst h66; rfl
        by_cases h120 : k = 120
        · subst h120; rfl
        by_cases h121 : k = 121
        · subst h121; rfl
        by_cases h122 : k = 122
        · subst h122; rfl
        by_cases h123 : k = 123
        · subst h123; rfl
        by_cases h164 : k = 164
        · subst h164; rfl
        by_cases h181 : k = 181
        · subst h181; rfl
        by_cases h182 : k = 182
        · subst h182; rfl
        by_cases h186 : k = 186
        · subst h186; rfl
        by_cases h187 : k = 187
        · subst h187; rfl
        · simp only [va_up, h66, h120, h121, h122, h123, h164, h181, h182, h186, h187, if_false]
      rw [eP] at hW
      rw [eP] at hT
      clear eP
      have eU : U = (va_up U 184 (U 184)) := by
        funext k
        by_cases h184 : k = 184
        · subst h184; rfl
        · simp only [va_up, h184, if_false]
      rw [eU] at hW
      clear eU
      have eV : V = (va_up (va_up (va_up (va_up (va_up V 0 (V 0)) 1 (V 1)) 2 (V 2)) 6 (V 6)) 12 (V 12)) := by
        funext k
        by_cases h0 : k = 0
        · subst h0; rfl
        by_cases h1 : k = 1
        · subst h1; rfl
        by_cases h2 : k = 2
        · subst h2; rfl
        by_cases h6 : k = 6
        · subst h6; rfl
        by_cases h12 : k = 12
        · subst h12; rfl
        · simp only [va_up, h0, h1, h2, h6, h12, if_false]
      rw [eV] at hW
      clear eV
      exact K 32 ls _ _ _ _ _ _ _ _ _ _ _ _ _ _ _ _ _ _ _ _ _ _ _ _ _ _ _ _ _ _ _ _ _ w8 H _ hr dX11_write_32 hW hT hP hD hS
  · replace hr := iteT c14 hr
    refine lv_bipush (v := (-2)) hx hb dX11_write_17 (by decide +kernel) ?_
    have eG : (va_up G 141 c4_G141) = (va_up (va_up (va_up (va_up (va_up (va_up (va_up (va_up (va_up (va_up (va_up (va_up (va_up (va_up (va_up (va_up G 60 (G 60)) 124 (G 124)) 125 (G 125)) 126 (G 126)) 127 (G 127)) 128 (G 128)) 141 c4_G141) 160 (G 160)) 161 (G 161)) 162 (G 162)) 163 (G 163)) 165 (G 165)) 166 (G 166)) 167 (G 167)) 183 (G 183)) 203 (G 203)) := by
      funext k
      by_cases h60 : k = 60
      · subst h60; rfl
      by_cases h124 : k = 124
      · subst h124; rfl
      by_cases h125 : k = 125
      · subst h125; rfl
      by_cases h126 : k = 126
      · subst h126; rfl
      by_cases h127 : k = 127
      · subst h127; rfl
      by_cases h128 : k = 128
      · subst h128; rfl
      by_cases h141 : k = 141
      · subst h141; rfl
      by_cases h160 : k = 160
      · subst h160; rfl
      by_cases h161 : k = 161
      · subst h161; rfl
      by_cases h162 : k = 162
      · subst h162; rfl
      by_cases h163 : k = 163
      · subst h163; rfl
      by_cases h165 : k = 165
      · subst h165; rfl
      by_cases h166 : k = 166
      · subst h166; rfl
      by_cases h167 : k = 167
      · subst h167; rfl
      by_cases h183 : k = 183
      · subst h183; rfl
      by_cases h203 : k = 203
      · subst h203; rfl
      · simp only [va_up, h60, h124, h125, h126, h127, h128, h141, h160, h161, h162, h163, h165, h166, h167, h183, h203, if_false]
    rw [eG] at hW
    clear eG
    have eP : P = (va_up (va_up (va_up (va_up (va_up (va_up (va_up (va_up (va_up (va_up P 66 (P 66)) 120 (P 120)) 121 (P 121)) 122 (P 122)) 123 (P 123)) 164 (P 164)) 181 (P 181)) 182 (P 182)) 186 (P 186)) 187 (P 187)) := by
      funext k
      by_cases h66 : k = 66
      · subst h66; rfl
      by_cases h120 : k = 120
      · subst h120; rfl
      by_cases h121 : k = 121
      · subst h121; rfl
      by_cases h122 : k = 122
      · subst h122; rfl
      by_cases h123 : k = 123
      · subst h123; rfl
      by_cases h164 : k = 164
      · subst h164; rfl
      by_cases h181 : k = 181
      · subst h181; rfl
      by_cases h182 : k = 182
      · subst h182; rfl
      by_cases h186 : k = 186
      · subst h186; rfl
      by_cases h187 : k = 187
      · subst h187; rfl
      · simp only [va_up, h66, h120, h121, h122, h123, h164, h181, h182, h186, h187, if_false]
    rw [eP] at hW
    rw [eP] at hT
    clear eP
    have eU : U = (va_up U 184 (U 184)) := by
      funext k
      by_cases h184 : k = 184
      · subst h184; rfl
      · simp only [va_up, h184, if_false]
    rw [eU] at hW
    clear eU
    have eV : V = (va_up (va_up (va_up (va_up (va_up V 0 (V 0)) 1 (V 1)) 2 (V 2)) 6 (V 6)) 12 (V 12)) := by
      funext k
      by_cases h0 : k = 0
      · subst h0; rfl
      by_cases h1 : k = 1
      · subst h1; rfl
      by_cases h2 : k = 2
      · subst h2; rfl
      by_cases h6 : k = 6
      · subst h6; rfl
      by_cases h12 : k = 12
      · subst h12; rfl
      · simp only [va_up, h0, h1, h2, h6, h12, if_false]
    rw [eV] at hW
    clear eV
    exact K 19 ls _ _ _ _ _ _ _ _ _ _ _ _ _ _ _ _ _ _ _ _ _ _ _ _ _ _ _ _ _ _ _ _ _ w5 H _ hr dX11_write_19 hW hT hP hD hS
set_option maxHeartbeats 4000000 in
set_option maxRecDepth 100000 in
theorem m_X11_write (l : Launch) (dC : Nat → ClassId) (dI : Nat → Nat → Nat) (kk : Nat → ClassId) (ad : Nat → Nat) (sz : Nat) (ws : va_W) (G : Nat → Nat → Int32) (P : Nat → Nat → Option Nat) (U : Nat → Nat → Int64) (V : Nat → Nat → Nat → Int32) (X : Nat → Nat → Nat → Int64) (O : Nat → Nat → Nat → Option Nat) (kd : Nat → Nat) (ln : Nat → Nat) (cnt : Nat) (this : Nat) (p0 : Int32) (p1 : Int32) (hk_this : kd this = 12) (hW : LW ws ad kk kd ln G P U V X O) (hT : TYP kd P O (V 0) cnt) (r : Int32) (c_G60 : Nat → Int32) (c_G124 : Nat → Int32) (c_G125 : Nat → Int32) (c_G126 : Nat → Int32) (c_G127 : Nat → Int32) (c_G128 : Nat → Int32) (c_G141 : Nat → Int32) (c_G160 : Nat → Int32) (c_G161 : Nat → Int32) (c_G162 : Nat → Int32) (c_G163 : Nat → Int32) (c_G165 : Nat → Int32) (c_G166 : Nat → Int32) (c_G167 : Nat → Int32) (c_G183 : Nat → Int32) (c_G203 : Nat → Int32) (c_P66 : Nat → Option Nat) (c_P120 : Nat → Option Nat) (c_P121 : Nat → Option Nat) (c_P122 : Nat → Option Nat) (c_P123 : Nat → Option Nat) (c_P164 : Nat → Option Nat) (c_P181 : Nat → Option Nat) (c_P182 : Nat → Option Nat) (c_P186 : Nat → Option Nat) (c_P187 : Nat → Option Nat) (c_U184 : Nat → Int64) (c_V0 : Nat → Nat → Int32) (c_V1 : Nat → Nat → Int32) (c_V2 : Nat → Nat → Int32) (c_V6 : Nat → Nat → Int32) (c_V12 : Nat → Nat → Int32) (hr : f_X11_write G P U V X O kd ln cnt this p0 p1 = some (r, c_G60, c_G124, c_G125, c_G126, c_G127, c_G128, c_G141, c_G160, c_G161, c_G162, c_G163, c_G165, c_G166, c_G167, c_G183, c_G203, c_P66, c_P120, c_P121, c_P122, c_P123, c_P164, c_P181, c_P182, c_P186, c_P187, c_U184, c_V0, c_V1, c_V2, c_V6, c_V12)) : Met l yX11_write vmX11_write ({ frames := 49, cells := 0, slots := 0, locals := 1275 } : Room) (va_Pc [.ref (ad this), .int p0, .int p1] (fun U => U.heap.size = sz ∧ va_P (dC, dI) vwCl ws U.heap ∧ va_K (dC, dI) vwCl (cT kk) U ∧ va_D (fun _ => True) ws)) (va_Qi (fun (rz : Int32) (w : va_W) => rz = r ∧ LW w ad kk kd ln (va_up (va_up (va_up (va_up (va_up (va_up (va_up (va_up (va_up (va_up (va_up (va_up (va_up (va_up (va_up (va_up G 60 c_G60) 124 c_G124) 125 c_G125) 126 c_G126) 127 c_G127) 128 c_G128) 141 c_G141) 160 c_G160) 161 c_G161) 162 c_G162) 163 c_G163) 165 c_G165) 166 c_G166) 167 c_G167) 183 c_G183) 203 c_G203) (va_up (va_up (va_up (va_up (va_up (va_up (va_up (va_up (va_up (va_up P 66 c_P66) 120 c_P120) 121 c_P121) 122 c_P122) 123 c_P123) 164 c_P164) 181 c_P181) 182 c_P182) 186 c_P186) 187 c_P187) (va_up U 184 c_U184) (va_up (va_up (va_up (va_up (va_up V 0 c_V0) 1 c_V1) 2 c_V2) 6 c_V6) 12 c_V12) X O ∧ TYP kd (va_up (va_up (va_up (va_up (va_up (va_up (va_up (va_up (va_up (va_up P 66 c_P66) 120 c_P120) 121 c_P121) 122 c_P122) 123 c_P123) 164 c_P164) 181 c_P181) 182 c_P182) 186 c_P186) 187 c_P187) O c_V0 cnt) (fun w t => va_P (dC, dI) vwCl w t.heap ∧ va_K (dC, dI) vwCl (cT kk) t ∧ va_D (va_A ws sz) w) (va_A ws sz)) 0 0 (va_A ws sz) := by
  refine Met.ofW (cc := cX11_write) (maxL := 5) (ret := (some .int)) (by decide) rfl ?_
  intro p e s m args below meth c s₁ B hml hv
  obtain ⟨rfl, hsz, hP, hK, hD0⟩ := hv
  have hx := B.exec
  have hb := B.bytes
  have hrt := B.returns
  have hts := atoms_spec (ws := vmX11_write) B.pre
  have hown : s.vm.findClass RX11 = some m.cls := findClass_of_methodNamed B.named
  subst hsz
  have hD := hD0.self (sz := s.heap.size)
  generalize hAe : va_A ws s.heap.size = A at hD ⊢
  have hA : ∀ q : Nat, s.heap.size ≤ q → A q := fun q h => by rw [← hAe]; exact Or.inr h
  have hS : va_S A s.heap s.heap [] := va_S.rf
  have hl := lv_entry ([.ref (ad this), .int p0, .int p1]) (n := 5) (Nat.le_of_ble_eq_true rfl)
  rw [lg_entry_eq]
  generalize (lg_sl ([.ref (ad this), .int p0, .int p1]) ++ List.replicate (5 - (lg_sl ([.ref (ad this), .int p0, .int p1])).length) Slot.unset).toArray = ls at hl ⊢
  exact bm_X11_write this p0 p1 hk_this r c_G60 c_G124 c_G125 c_G126 c_G127 c_G128 c_G141 c_G160 c_G161 c_G162 c_G163 c_G165 c_G166 c_G167 c_G183 c_G203 c_P66 c_P120 c_P121 c_P122 c_P123 c_P164 c_P181 c_P182 c_P186 c_P187 c_U184 c_V0 c_V1 c_V2 c_V6 c_V12 hr hx hb hml hown hts hA hK hW hT hP hD hS hl (fun pc ls rz c_G60z c_G124z c_G125z c_G126z c_G127z c_G128z c_G141z c_G160z c_G161z c_G162z c_G163z c_G165z c_G166z c_G167z c_G183z c_G203z c_P66z c_P120z c_P121z c_P122z c_P123z c_P164z c_P181z c_P182z c_P186z c_P187z c_U184z c_V0z c_V1z c_V2z c_V6z c_V12z ws H locs he hd hW hT hP hD hS => by cases he; exact W.iret (v := r) hx hb hrt (fun t ht hW9 => ⟨⟨r, ws, rfl, ⟨rfl, hW, hT⟩, by rw [ht]; exact hP, va_K.moved hW9.alike hK, hD⟩, hS.F ht⟩) hS.2.2 hd)
