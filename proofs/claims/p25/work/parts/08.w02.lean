theorem gd_X0_hasForm_0 : decode cX0_hasForm 0 = .ok (.iconst 0, 1) ∧ decode cX0_hasForm 1 = .ok (.istore 5, 2) ∧ decode cX0_hasForm 3 = .ok (.iload 5, 2) ∧ decode cX0_hasForm 5 = .ok (.aload_n 0, 1) ∧ decode cX0_hasForm 6 = .ok (.getfield 14, 3) ∧ decode cX0_hasForm 9 = .ok (.getfield 38, 3) ∧ decode cX0_hasForm 12 = .ok (.if_icmp .ge 29, 3) ∧ decode cX0_hasForm 15 = .ok (.aload_n 0, 1) ∧ decode cX0_hasForm 16 = .ok (.iload_n 1, 1) ∧ decode cX0_hasForm 17 = .ok (.iload 5, 2) := by decide +kernel
theorem dX0_hasForm_0 : decode cX0_hasForm 0 = .ok (.iconst 0, 1) := gd_X0_hasForm_0.1
theorem dX0_hasForm_1 : decode cX0_hasForm 1 = .ok (.istore 5, 2) := gd_X0_hasForm_0.2.1
theorem dX0_hasForm_3 : decode cX0_hasForm 3 = .ok (.iload 5, 2) := gd_X0_hasForm_0.2.2.1
theorem dX0_hasForm_5 : decode cX0_hasForm 5 = .ok (.aload_n 0, 1) := gd_X0_hasForm_0.2.2.2.1
theorem dX0_hasForm_6 : decode cX0_hasForm 6 = .ok (.getfield 14, 3) := gd_X0_hasForm_0.2.2.2.2.1
theorem dX0_hasForm_9 : decode cX0_hasForm 9 = .ok (.getfield 38, 3) := gd_X0_hasForm_0.2.2.2.2.2.1
theorem dX0_hasForm_12 : decode cX0_hasForm 12 = .ok (.if_icmp .ge 29, 3) := gd_X0_hasForm_0.2.2.2.2.2.2.1
theorem dX0_hasForm_15 : decode cX0_hasForm 15 = .ok (.aload_n 0, 1) := gd_X0_hasForm_0.2.2.2.2.2.2.2.1
theorem dX0_hasForm_16 : decode cX0_hasForm 16 = .ok (.iload_n 1, 1) := gd_X0_hasForm_0.2.2.2.2.2.2.2.2.1
theorem dX0_hasForm_17 : decode cX0_hasForm 17 = .ok (.iload 5, 2) := gd_X0_hasForm_0.2.2.2.2.2.2.2.2.2
theorem gd_X0_hasForm_19 : decode cX0_hasForm 19 = .ok (.invokevirtual 56, 3) ∧ decode cX0_hasForm 22 = .ok (.aload_n 2, 1) ∧ decode cX0_hasForm 23 = .ok (.iload_n 3, 1) ∧ decode cX0_hasForm 24 = .ok (.iload 4, 2) ∧ decode cX0_hasForm 26 = .ok (.invokevirtual 70, 3) ∧ decode cX0_hasForm 29 = .ok (.iconst (-1), 1) ∧ decode cX0_hasForm 30 = .ok (.if_icmp .eq 5, 3) ∧ decode cX0_hasForm 33 = .ok (.iconst 1, 1) ∧ decode cX0_hasForm 34 = .ok (.ireturn, 1) ∧ decode cX0_hasForm 35 = .ok (.iinc 5 1, 3) := by decide +kernel
theorem dX0_hasForm_19 : decode cX0_hasForm 19 = .ok (.invokevirtual 56, 3) := gd_X0_hasForm_19.1
theorem dX0_hasForm_22 : decode cX0_hasForm 22 = .ok (.aload_n 2, 1) := gd_X0_hasForm_19.2.1
theorem dX0_hasForm_23 : decode cX0_hasForm 23 = .ok (.iload_n 3, 1) := gd_X0_hasForm_19.2.2.1
theorem dX0_hasForm_24 : decode cX0_hasForm 24 = .ok (.iload 4, 2) := gd_X0_hasForm_19.2.2.2.1
theorem dX0_hasForm_26 : decode cX0_hasForm 26 = .ok (.invokevirtual 70, 3) := gd_X0_hasForm_19.2.2.2.2.1
theorem dX0_hasForm_29 : decode cX0_hasForm 29 = .ok (.iconst (-1), 1) := gd_X0_hasForm_19.2.2.2.2.2.1
theorem dX0_hasForm_30 : decode cX0_hasForm 30 = .ok (.if_icmp .eq 5, 3) := gd_X0_hasForm_19.2.2.2.2.2.2.1
theorem dX0_hasForm_33 : decode cX0_hasForm 33 = .ok (.iconst 1, 1) := gd_X0_hasForm_19.2.2.2.2.2.2.2.1
theorem dX0_hasForm_34 : decode cX0_hasForm 34 = .ok (.ireturn, 1) := gd_X0_hasForm_19.2.2.2.2.2.2.2.2.1
theorem dX0_hasForm_35 : decode cX0_hasForm 35 = .ok (.iinc 5 1, 3) := gd_X0_hasForm_19.2.2.2.2.2.2.2.2.2
theorem gd_X0_hasForm_38 : decode cX0_hasForm 38 = .ok (.goto (-35), 3) ∧ decode cX0_hasForm 41 = .ok (.iconst 0, 1) ∧ decode cX0_hasForm 42 = .ok (.ireturn, 1) ∧ decode cX0_collide 0 = .ok (.aload_n 0, 1) ∧ decode cX0_collide 1 = .ok (.iload_n 1, 1) ∧ decode cX0_collide 2 = .ok (.iload_n 2, 1) ∧ decode cX0_collide 3 = .ok (.invokevirtual 56, 3) ∧ decode cX0_collide 6 = .ok (.astore 4, 2) ∧ decode cX0_collide 8 = .ok (.aload_n 0, 1) ∧ decode cX0_collide 9 = .ok (.iload_n 1, 1) := by decide +kernel
theorem dX0_hasForm_38 : decode cX0_hasForm 38 = .ok (.goto (-35), 3) := gd_X0_hasForm_38.1
theorem dX0_hasForm_41 : decode cX0_hasForm 41 = .ok (.iconst 0, 1) := gd_X0_hasForm_38.2.1
theorem dX0_hasForm_42 : decode cX0_hasForm 42 = .ok (.ireturn, 1) := gd_X0_hasForm_38.2.2.1
theorem dX0_collide_0 : decode cX0_collide 0 = .ok (.aload_n 0, 1) := gd_X0_hasForm_38.2.2.2.1
theorem dX0_collide_1 : decode cX0_collide 1 = .ok (.iload_n 1, 1) := gd_X0_hasForm_38.2.2.2.2.1
theorem dX0_collide_2 : decode cX0_collide 2 = .ok (.iload_n 2, 1) := gd_X0_hasForm_38.2.2.2.2.2.1
theorem dX0_collide_3 : decode cX0_collide 3 = .ok (.invokevirtual 56, 3) := gd_X0_hasForm_38.2.2.2.2.2.2.1
theorem dX0_collide_6 : decode cX0_collide 6 = .ok (.astore 4, 2) := gd_X0_hasForm_38.2.2.2.2.2.2.2.1
theorem dX0_collide_8 : decode cX0_collide 8 = .ok (.aload_n 0, 1) := gd_X0_hasForm_38.2.2.2.2.2.2.2.2.1
theorem dX0_collide_9 : decode cX0_collide 9 = .ok (.iload_n 1, 1) := gd_X0_hasForm_38.2.2.2.2.2.2.2.2.2
theorem gd_X0_collide_10 : decode cX0_collide 10 = .ok (.iload_n 3, 1) ∧ decode cX0_collide 11 = .ok (.invokevirtual 56, 3) ∧ decode cX0_collide 14 = .ok (.astore 5, 2) ∧ decode cX0_collide 16 = .ok (.iconst 0, 1) ∧ decode cX0_collide 17 = .ok (.istore 6, 2) ∧ decode cX0_collide 19 = .ok (.iload 6, 2) ∧ decode cX0_collide 21 = .ok (.aload 4, 2) ∧ decode cX0_collide 23 = .ok (.getfield 38, 3) ∧ decode cX0_collide 26 = .ok (.if_icmp .ge 41, 3) ∧ decode cX0_collide 29 = .ok (.aload 5, 2) := by decide +kernel
theorem dX0_collide_10 : decode cX0_collide 10 = .ok (.iload_n 3, 1) := gd_X0_collide_10.1
theorem dX0_collide_11 : decode cX0_collide 11 = .ok (.invokevirtual 56, 3) := gd_X0_collide_10.2.1
theorem dX0_collide_14 : decode cX0_collide 14 = .ok (.astore 5, 2) := gd_X0_collide_10.2.2.1
theorem dX0_collide_16 : decode cX0_collide 16 = .ok (.iconst 0, 1) := gd_X0_collide_10.2.2.2.1
theorem dX0_collide_17 : decode cX0_collide 17 = .ok (.istore 6, 2) := gd_X0_collide_10.2.2.2.2.1
theorem dX0_collide_19 : decode cX0_collide 19 = .ok (.iload 6, 2) := gd_X0_collide_10.2.2.2.2.2.1
theorem dX0_collide_21 : decode cX0_collide 21 = .ok (.aload 4, 2) := gd_X0_collide_10.2.2.2.2.2.2.1
theorem dX0_collide_23 : decode cX0_collide 23 = .ok (.getfield 38, 3) := gd_X0_collide_10.2.2.2.2.2.2.2.1
theorem dX0_collide_26 : decode cX0_collide 26 = .ok (.if_icmp .ge 41, 3) := gd_X0_collide_10.2.2.2.2.2.2.2.2.1
theorem dX0_collide_29 : decode cX0_collide 29 = .ok (.aload 5, 2) := gd_X0_collide_10.2.2.2.2.2.2.2.2.2
theorem gd_X0_collide_31 : decode cX0_collide 31 = .ok (.aload 4, 2) ∧ decode cX0_collide 33 = .ok (.getfield 42, 3) ∧ decode cX0_collide 36 = .ok (.iload 6, 2) ∧ decode cX0_collide 38 = .ok (.aload 4, 2) ∧ decode cX0_collide 40 = .ok (.getfield 46, 3) ∧ decode cX0_collide 43 = .ok (.imul, 1) ∧ decode cX0_collide 44 = .ok (.aload 4, 2) ∧ decode cX0_collide 46 = .ok (.getfield 49, 3) ∧ decode cX0_collide 49 = .ok (.iload 6, 2) ∧ decode cX0_collide 51 = .ok (.iaload, 1) := by decide +kernel
theorem dX0_collide_31 : decode cX0_collide 31 = .ok (.aload 4, 2) := gd_X0_collide_31.1
theorem dX0_collide_33 : decode cX0_collide 33 = .ok (.getfield 42, 3) := gd_X0_collide_31.2.1
theorem dX0_collide_36 : decode cX0_collide 36 = .ok (.iload 6, 2) := gd_X0_collide_31.2.2.1
theorem dX0_collide_38 : decode cX0_collide 38 = .ok (.aload 4, 2) := gd_X0_collide_31.2.2.2.1
theorem dX0_collide_40 : decode cX0_collide 40 = .ok (.getfield 46, 3) := gd_X0_collide_31.2.2.2.2.1
theorem dX0_collide_43 : decode cX0_collide 43 = .ok (.imul, 1) := gd_X0_collide_31.2.2.2.2.2.1
theorem dX0_collide_44 : decode cX0_collide 44 = .ok (.aload 4, 2) := gd_X0_collide_31.2.2.2.2.2.2.1
theorem dX0_collide_46 : decode cX0_collide 46 = .ok (.getfield 49, 3) := gd_X0_collide_31.2.2.2.2.2.2.2.1
theorem dX0_collide_49 : decode cX0_collide 49 = .ok (.iload 6, 2) := gd_X0_collide_31.2.2.2.2.2.2.2.2.1
theorem dX0_collide_51 : decode cX0_collide 51 = .ok (.iaload, 1) := gd_X0_collide_31.2.2.2.2.2.2.2.2.2
theorem gd_X0_collide_52 : decode cX0_collide 52 = .ok (.invokevirtual 70, 3) ∧ decode cX0_collide 55 = .ok (.iconst (-1), 1) ∧ decode cX0_collide 56 = .ok (.if_icmp .eq 5, 3) ∧ decode cX0_collide 59 = .ok (.iconst 1, 1) ∧ decode cX0_collide 60 = .ok (.ireturn, 1) ∧ decode cX0_collide 61 = .ok (.iinc 6 1, 3) ∧ decode cX0_collide 64 = .ok (.goto (-45), 3) ∧ decode cX0_collide 67 = .ok (.iconst 0, 1) ∧ decode cX0_collide 68 = .ok (.ireturn, 1) ∧ decode cX0_formsRhyme 0 = .ok (.aload_n 0, 1) := by decide +kernel
theorem dX0_collide_52 : decode cX0_collide 52 = .ok (.invokevirtual 70, 3) := gd_X0_collide_52.1
theorem dX0_collide_55 : decode cX0_collide 55 = .ok (.iconst (-1), 1) := gd_X0_collide_52.2.1
theorem dX0_collide_56 : decode cX0_collide 56 = .ok (.if_icmp .eq 5, 3) := gd_X0_collide_52.2.2.1
theorem dX0_collide_59 : decode cX0_collide 59 = .ok (.iconst 1, 1) := gd_X0_collide_52.2.2.2.1
theorem dX0_collide_60 : decode cX0_collide 60 = .ok (.ireturn, 1) := gd_X0_collide_52.2.2.2.2.1
theorem dX0_collide_61 : decode cX0_collide 61 = .ok (.iinc 6 1, 3) := gd_X0_collide_52.2.2.2.2.2.1
theorem dX0_collide_64 : decode cX0_collide 64 = .ok (.goto (-45), 3) := gd_X0_collide_52.2.2.2.2.2.2.1
theorem dX0_collide_67 : decode cX0_collide 67 = .ok (.iconst 0, 1) := gd_X0_collide_52.2.2.2.2.2.2.2.1
theorem dX0_collide_68 : decode cX0_collide 68 = .ok (.ireturn, 1) := gd_X0_collide_52.2.2.2.2.2.2.2.2.1
theorem dX0_formsRhyme_0 : decode cX0_formsRhyme 0 = .ok (.aload_n 0, 1) := gd_X0_collide_52.2.2.2.2.2.2.2.2.2
theorem gd_X0_formsRhyme_1 : decode cX0_formsRhyme 1 = .ok (.iload_n 1, 1) ∧ decode cX0_formsRhyme 2 = .ok (.iload_n 2, 1) ∧ decode cX0_formsRhyme 3 = .ok (.invokevirtual 56, 3) ∧ decode cX0_formsRhyme 6 = .ok (.astore 4, 2) ∧ decode cX0_formsRhyme 8 = .ok (.aload_n 0, 1) ∧ decode cX0_formsRhyme 9 = .ok (.iload_n 1, 1) ∧ decode cX0_formsRhyme 10 = .ok (.iload_n 3, 1) ∧ decode cX0_formsRhyme 11 = .ok (.invokevirtual 56, 3) ∧ decode cX0_formsRhyme 14 = .ok (.astore 5, 2) ∧ decode cX0_formsRhyme 16 = .ok (.iconst 0, 1) := by decide +kernel
theorem dX0_formsRhyme_1 : decode cX0_formsRhyme 1 = .ok (.iload_n 1, 1) := gd_X0_formsRhyme_1.1
theorem dX0_formsRhyme_2 : decode cX0_formsRhyme 2 = .ok (.iload_n 2, 1) := gd_X0_formsRhyme_1.2.1
theorem dX0_formsRhyme_3 : decode cX0_formsRhyme 3 = .ok (.invokevirtual 56, 3) := gd_X0_formsRhyme_1.2.2.1
theorem dX0_formsRhyme_6 : decode cX0_formsRhyme 6 = .ok (.astore 4, 2) := gd_X0_formsRhyme_1.2.2.2.1
theorem dX0_formsRhyme_8 : decode cX0_formsRhyme 8 = .ok (.aload_n 0, 1) := gd_X0_formsRhyme_1.2.2.2.2.1
theorem dX0_formsRhyme_9 : decode cX0_formsRhyme 9 = .ok (.iload_n 1, 1) := gd_X0_formsRhyme_1.2.2.2.2.2.1
theorem dX0_formsRhyme_10 : decode cX0_formsRhyme 10 = .ok (.iload_n 3, 1) := gd_X0_formsRhyme_1.2.2.2.2.2.2.1
theorem dX0_formsRhyme_11 : decode cX0_formsRhyme 11 = .ok (.invokevirtual 56, 3) := gd_X0_formsRhyme_1.2.2.2.2.2.2.2.1
theorem dX0_formsRhyme_14 : decode cX0_formsRhyme 14 = .ok (.astore 5, 2) := gd_X0_formsRhyme_1.2.2.2.2.2.2.2.2.1
theorem dX0_formsRhyme_16 : decode cX0_formsRhyme 16 = .ok (.iconst 0, 1) := gd_X0_formsRhyme_1.2.2.2.2.2.2.2.2.2
theorem gd_X0_formsRhyme_17 : decode cX0_formsRhyme 17 = .ok (.istore 6, 2) ∧ decode cX0_formsRhyme 19 = .ok (.iload 6, 2) ∧ decode cX0_formsRhyme 21 = .ok (.aload 4, 2) ∧ decode cX0_formsRhyme 23 = .ok (.getfield 38, 3) ∧ decode cX0_formsRhyme 26 = .ok (.if_icmp .ge 44, 3) ∧ decode cX0_formsRhyme 29 = .ok (.iconst 0, 1) ∧ decode cX0_formsRhyme 30 = .ok (.istore 7, 2) ∧ decode cX0_formsRhyme 32 = .ok (.iload 7, 2) ∧ decode cX0_formsRhyme 34 = .ok (.aload 5, 2) ∧ decode cX0_formsRhyme 36 = .ok (.getfield 38, 3) := by decide +kernel
theorem dX0_formsRhyme_17 : decode cX0_formsRhyme 17 = .ok (.istore 6, 2) := gd_X0_formsRhyme_17.1
theorem dX0_formsRhyme_19 : decode cX0_formsRhyme 19 = .ok (.iload 6, 2) := gd_X0_formsRhyme_17.2.1
theorem dX0_formsRhyme_21 : decode cX0_formsRhyme 21 = .ok (.aload 4, 2) := gd_X0_formsRhyme_17.2.2.1
theorem dX0_formsRhyme_23 : decode cX0_formsRhyme 23 = .ok (.getfield 38, 3) := gd_X0_formsRhyme_17.2.2.2.1
theorem dX0_formsRhyme_26 : decode cX0_formsRhyme 26 = .ok (.if_icmp .ge 44, 3) := gd_X0_formsRhyme_17.2.2.2.2.1
theorem dX0_formsRhyme_29 : decode cX0_formsRhyme 29 = .ok (.iconst 0, 1) := gd_X0_formsRhyme_17.2.2.2.2.2.1
theorem dX0_formsRhyme_30 : decode cX0_formsRhyme 30 = .ok (.istore 7, 2) := gd_X0_formsRhyme_17.2.2.2.2.2.2.1
theorem dX0_formsRhyme_32 : decode cX0_formsRhyme 32 = .ok (.iload 7, 2) := gd_X0_formsRhyme_17.2.2.2.2.2.2.2.1
theorem dX0_formsRhyme_34 : decode cX0_formsRhyme 34 = .ok (.aload 5, 2) := gd_X0_formsRhyme_17.2.2.2.2.2.2.2.2.1
theorem dX0_formsRhyme_36 : decode cX0_formsRhyme 36 = .ok (.getfield 38, 3) := gd_X0_formsRhyme_17.2.2.2.2.2.2.2.2.2
theorem gd_X0_formsRhyme_39 : decode cX0_formsRhyme 39 = .ok (.if_icmp .ge 25, 3) ∧ decode cX0_formsRhyme 42 = .ok (.aload 4, 2) ∧ decode cX0_formsRhyme 44 = .ok (.iload 6, 2) ∧ decode cX0_formsRhyme 46 = .ok (.aload 5, 2) ∧ decode cX0_formsRhyme 48 = .ok (.iload 7, 2) ∧ decode cX0_formsRhyme 50 = .ok (.invokevirtual 74, 3) ∧ decode cX0_formsRhyme 53 = .ok (.ifCond .eq 5, 3) ∧ decode cX0_formsRhyme 56 = .ok (.iconst 1, 1) ∧ decode cX0_formsRhyme 57 = .ok (.ireturn, 1) ∧ decode cX0_formsRhyme 58 = .ok (.iinc 7 1, 3) := by decide +kernel
theorem dX0_formsRhyme_39 : decode cX0_formsRhyme 39 = .ok (.if_icmp .ge 25, 3) := gd_X0_formsRhyme_39.1
theorem dX0_formsRhyme_42 : decode cX0_formsRhyme 42 = .ok (.aload 4, 2) := gd_X0_formsRhyme_39.2.1
theorem dX0_formsRhyme_44 : decode cX0_formsRhyme 44 = .ok (.iload 6, 2) := gd_X0_formsRhyme_39.2.2.1
theorem dX0_formsRhyme_46 : decode cX0_formsRhyme 46 = .ok (.aload 5, 2) := gd_X0_formsRhyme_39.2.2.2.1
theorem dX0_formsRhyme_48 : decode cX0_formsRhyme 48 = .ok (.iload 7, 2) := gd_X0_formsRhyme_39.2.2.2.2.1
theorem dX0_formsRhyme_50 : decode cX0_formsRhyme 50 = .ok (.invokevirtual 74, 3) := gd_X0_formsRhyme_39.2.2.2.2.2.1
theorem dX0_formsRhyme_53 : decode cX0_formsRhyme 53 = .ok (.ifCond .eq 5, 3) := gd_X0_formsRhyme_39.2.2.2.2.2.2.1
theorem dX0_formsRhyme_56 : decode cX0_formsRhyme 56 = .ok (.iconst 1, 1) := gd_X0_formsRhyme_39.2.2.2.2.2.2.2.1
theorem dX0_formsRhyme_57 : decode cX0_formsRhyme 57 = .ok (.ireturn, 1) := gd_X0_formsRhyme_39.2.2.2.2.2.2.2.2.1
theorem dX0_formsRhyme_58 : decode cX0_formsRhyme 58 = .ok (.iinc 7 1, 3) := gd_X0_formsRhyme_39.2.2.2.2.2.2.2.2.2
theorem gd_X0_formsRhyme_61 : decode cX0_formsRhyme 61 = .ok (.goto (-29), 3) ∧ decode cX0_formsRhyme 64 = .ok (.iinc 6 1, 3) ∧ decode cX0_formsRhyme 67 = .ok (.goto (-48), 3) ∧ decode cX0_formsRhyme 70 = .ok (.iconst 0, 1) ∧ decode cX0_formsRhyme 71 = .ok (.ireturn, 1) ∧ decode cX0_isSuch 0 = .ok (.aload_n 0, 1) ∧ decode cX0_isSuch 1 = .ok (.iload_n 1, 1) ∧ decode cX0_isSuch 2 = .ok (.iload_n 2, 1) ∧ decode cX0_isSuch 3 = .ok (.invokevirtual 56, 3) ∧ decode cX0_isSuch 6 = .ok (.astore 4, 2) := by decide +kernel
theorem dX0_formsRhyme_61 : decode cX0_formsRhyme 61 = .ok (.goto (-29), 3) := gd_X0_formsRhyme_61.1
theorem dX0_formsRhyme_64 : decode cX0_formsRhyme 64 = .ok (.iinc 6 1, 3) := gd_X0_formsRhyme_61.2.1
theorem dX0_formsRhyme_67 : decode cX0_formsRhyme 67 = .ok (.goto (-48), 3) := gd_X0_formsRhyme_61.2.2.1
theorem dX0_formsRhyme_70 : decode cX0_formsRhyme 70 = .ok (.iconst 0, 1) := gd_X0_formsRhyme_61.2.2.2.1
theorem dX0_formsRhyme_71 : decode cX0_formsRhyme 71 = .ok (.ireturn, 1) := gd_X0_formsRhyme_61.2.2.2.2.1
theorem dX0_isSuch_0 : decode cX0_isSuch 0 = .ok (.aload_n 0, 1) := gd_X0_formsRhyme_61.2.2.2.2.2.1
theorem dX0_isSuch_1 : decode cX0_isSuch 1 = .ok (.iload_n 1, 1) := gd_X0_formsRhyme_61.2.2.2.2.2.2.1
theorem dX0_isSuch_2 : decode cX0_isSuch 2 = .ok (.iload_n 2, 1) := gd_X0_formsRhyme_61.2.2.2.2.2.2.2.1
theorem dX0_isSuch_3 : decode cX0_isSuch 3 = .ok (.invokevirtual 56, 3) := gd_X0_formsRhyme_61.2.2.2.2.2.2.2.2.1
theorem dX0_isSuch_6 : decode cX0_isSuch 6 = .ok (.astore 4, 2) := gd_X0_formsRhyme_61.2.2.2.2.2.2.2.2.2
theorem gd_X0_isSuch_8 : decode cX0_isSuch 8 = .ok (.iload_n 3, 1) ∧ decode cX0_isSuch 9 = .ok (.lookupswitch 56 #[(0, 27), (1, 42)], 27) ∧ decode cX0_isSuch 36 = .ok (.aload 4, 2) ∧ decode cX0_isSuch 38 = .ok (.getfield 38, 3) ∧ decode cX0_isSuch 41 = .ok (.iconst 1, 1) ∧ decode cX0_isSuch 42 = .ok (.if_icmp .le 7, 3) ∧ decode cX0_isSuch 45 = .ok (.iconst 1, 1) ∧ decode cX0_isSuch 46 = .ok (.goto 4, 3) ∧ decode cX0_isSuch 49 = .ok (.iconst 0, 1) ∧ decode cX0_isSuch 50 = .ok (.ireturn, 1) := by decide +kernel
theorem dX0_isSuch_8 : decode cX0_isSuch 8 = .ok (.iload_n 3, 1) := gd_X0_isSuch_8.1
theorem dX0_isSuch_9 : decode cX0_isSuch 9 = .ok (.lookupswitch 56 #[(0, 27), (1, 42)], 27) := gd_X0_isSuch_8.2.1
theorem dX0_isSuch_36 : decode cX0_isSuch 36 = .ok (.aload 4, 2) := gd_X0_isSuch_8.2.2.1
theorem dX0_isSuch_38 : decode cX0_isSuch 38 = .ok (.getfield 38, 3) := gd_X0_isSuch_8.2.2.2.1
theorem dX0_isSuch_41 : decode cX0_isSuch 41 = .ok (.iconst 1, 1) := gd_X0_isSuch_8.2.2.2.2.1
theorem dX0_isSuch_42 : decode cX0_isSuch 42 = .ok (.if_icmp .le 7, 3) := gd_X0_isSuch_8.2.2.2.2.2.1
theorem dX0_isSuch_45 : decode cX0_isSuch 45 = .ok (.iconst 1, 1) := gd_X0_isSuch_8.2.2.2.2.2.2.1
theorem dX0_isSuch_46 : decode cX0_isSuch 46 = .ok (.goto 4, 3) := gd_X0_isSuch_8.2.2.2.2.2.2.2.1
theorem dX0_isSuch_49 : decode cX0_isSuch 49 = .ok (.iconst 0, 1) := gd_X0_isSuch_8.2.2.2.2.2.2.2.2.1
theorem dX0_isSuch_50 : decode cX0_isSuch 50 = .ok (.ireturn, 1) := gd_X0_isSuch_8.2.2.2.2.2.2.2.2.2
theorem gd_X0_isSuch_51 : decode cX0_isSuch 51 = .ok (.aload 4, 2) ∧ decode cX0_isSuch 53 = .ok (.getfield 38, 3) ∧ decode cX0_isSuch 56 = .ok (.ifCond .ne 7, 3) ∧ decode cX0_isSuch 59 = .ok (.iconst 1, 1) ∧ decode cX0_isSuch 60 = .ok (.goto 4, 3) ∧ decode cX0_isSuch 63 = .ok (.iconst 0, 1) ∧ decode cX0_isSuch 64 = .ok (.ireturn, 1) ∧ decode cX0_isSuch 65 = .ok (.aload 4, 2) ∧ decode cX0_isSuch 67 = .ok (.getfield 38, 3) ∧ decode cX0_isSuch 70 = .ok (.iconst 1, 1) := by decide +kernel
theorem dX0_isSuch_51 : decode cX0_isSuch 51 = .ok (.aload 4, 2) := gd_X0_isSuch_51.1
theorem dX0_isSuch_53 : decode cX0_isSuch 53 = .ok (.getfield 38, 3) := gd_X0_isSuch_51.2.1
theorem dX0_isSuch_56 : decode cX0_isSuch 56 = .ok (.ifCond .ne 7, 3) := gd_X0_isSuch_51.2.2.1
theorem dX0_isSuch_59 : decode cX0_isSuch 59 = .ok (.iconst 1, 1) := gd_X0_isSuch_51.2.2.2.1
theorem dX0_isSuch_60 : decode cX0_isSuch 60 = .ok (.goto 4, 3) := gd_X0_isSuch_51.2.2.2.2.1
theorem dX0_isSuch_63 : decode cX0_isSuch 63 = .ok (.iconst 0, 1) := gd_X0_isSuch_51.2.2.2.2.2.1
theorem dX0_isSuch_64 : decode cX0_isSuch 64 = .ok (.ireturn, 1) := gd_X0_isSuch_51.2.2.2.2.2.2.1
theorem dX0_isSuch_65 : decode cX0_isSuch 65 = .ok (.aload 4, 2) := gd_X0_isSuch_51.2.2.2.2.2.2.2.1
theorem dX0_isSuch_67 : decode cX0_isSuch 67 = .ok (.getfield 38, 3) := gd_X0_isSuch_51.2.2.2.2.2.2.2.2.1
theorem dX0_isSuch_70 : decode cX0_isSuch 70 = .ok (.iconst 1, 1) := gd_X0_isSuch_51.2.2.2.2.2.2.2.2.2
theorem gd_X0_isSuch_71 : decode cX0_isSuch 71 = .ok (.if_icmp .ne 41, 3) ∧ decode cX0_isSuch 74 = .ok (.aload 4, 2) ∧ decode cX0_isSuch 76 = .ok (.aload_n 0, 1) ∧ decode cX0_isSuch 77 = .ok (.getfield 14, 3) ∧ decode cX0_isSuch 80 = .ok (.getfield 42, 3) ∧ decode cX0_isSuch 83 = .ok (.iload_n 2, 1) ∧ decode cX0_isSuch 84 = .ok (.aload_n 0, 1) ∧ decode cX0_isSuch 85 = .ok (.getfield 14, 3) ∧ decode cX0_isSuch 88 = .ok (.getfield 46, 3) ∧ decode cX0_isSuch 91 = .ok (.imul, 1) := by decide +kernel
theorem dX0_isSuch_71 : decode cX0_isSuch 71 = .ok (.if_icmp .ne 41, 3) := gd_X0_isSuch_71.1
theorem dX0_isSuch_74 : decode cX0_isSuch 74 = .ok (.aload 4, 2) := gd_X0_isSuch_71.2.1
theorem dX0_isSuch_76 : decode cX0_isSuch 76 = .ok (.aload_n 0, 1) := gd_X0_isSuch_71.2.2.1
theorem dX0_isSuch_77 : decode cX0_isSuch 77 = .ok (.getfield 14, 3) := gd_X0_isSuch_71.2.2.2.1
theorem dX0_isSuch_80 : decode cX0_isSuch 80 = .ok (.getfield 42, 3) := gd_X0_isSuch_71.2.2.2.2.1
theorem dX0_isSuch_83 : decode cX0_isSuch 83 = .ok (.iload_n 2, 1) := gd_X0_isSuch_71.2.2.2.2.2.1
theorem dX0_isSuch_84 : decode cX0_isSuch 84 = .ok (.aload_n 0, 1) := gd_X0_isSuch_71.2.2.2.2.2.2.1
theorem dX0_isSuch_85 : decode cX0_isSuch 85 = .ok (.getfield 14, 3) := gd_X0_isSuch_71.2.2.2.2.2.2.2.1
theorem dX0_isSuch_88 : decode cX0_isSuch 88 = .ok (.getfield 46, 3) := gd_X0_isSuch_71.2.2.2.2.2.2.2.2.1
theorem dX0_isSuch_91 : decode cX0_isSuch 91 = .ok (.imul, 1) := gd_X0_isSuch_71.2.2.2.2.2.2.2.2.2
theorem gd_X0_isSuch_92 : decode cX0_isSuch 92 = .ok (.aload_n 0, 1) ∧ decode cX0_isSuch 93 = .ok (.getfield 14, 3) ∧ decode cX0_isSuch 96 = .ok (.getfield 49, 3) ∧ decode cX0_isSuch 99 = .ok (.iload_n 2, 1) ∧ decode cX0_isSuch 100 = .ok (.iaload, 1) ∧ decode cX0_isSuch 101 = .ok (.invokevirtual 70, 3) ∧ decode cX0_isSuch 104 = .ok (.iconst (-1), 1) ∧ decode cX0_isSuch 105 = .ok (.if_icmp .eq 7, 3) ∧ decode cX0_isSuch 108 = .ok (.iconst 1, 1) ∧ decode cX0_isSuch 109 = .ok (.goto 4, 3) := by decide +kernel
theorem dX0_isSuch_92 : decode cX0_isSuch 92 = .ok (.aload_n 0, 1) := gd_X0_isSuch_92.1
theorem dX0_isSuch_93 : decode cX0_isSuch 93 = .ok (.getfield 14, 3) := gd_X0_isSuch_92.2.1
theorem dX0_isSuch_96 : decode cX0_isSuch 96 = .ok (.getfield 49, 3) := gd_X0_isSuch_92.2.2.1
theorem dX0_isSuch_99 : decode cX0_isSuch 99 = .ok (.iload_n 2, 1) := gd_X0_isSuch_92.2.2.2.1
theorem dX0_isSuch_100 : decode cX0_isSuch 100 = .ok (.iaload, 1) := gd_X0_isSuch_92.2.2.2.2.1
theorem dX0_isSuch_101 : decode cX0_isSuch 101 = .ok (.invokevirtual 70, 3) := gd_X0_isSuch_92.2.2.2.2.2.1
theorem dX0_isSuch_104 : decode cX0_isSuch 104 = .ok (.iconst (-1), 1) := gd_X0_isSuch_92.2.2.2.2.2.2.1
theorem dX0_isSuch_105 : decode cX0_isSuch 105 = .ok (.if_icmp .eq 7, 3) := gd_X0_isSuch_92.2.2.2.2.2.2.2.1
theorem dX0_isSuch_108 : decode cX0_isSuch 108 = .ok (.iconst 1, 1) := gd_X0_isSuch_92.2.2.2.2.2.2.2.2.1
theorem dX0_isSuch_109 : decode cX0_isSuch 109 = .ok (.goto 4, 3) := gd_X0_isSuch_92.2.2.2.2.2.2.2.2.2
theorem gd_X0_isSuch_112 : decode cX0_isSuch 112 = .ok (.iconst 0, 1) ∧ decode cX0_isSuch 113 = .ok (.ireturn, 1) ∧ decode cX0_usesLaw 0 = .ok (.aload_n 0, 1) ∧ decode cX0_usesLaw 1 = .ok (.getfield 24, 3) ∧ decode cX0_usesLaw 4 = .ok (.iload_n 1, 1) ∧ decode cX0_usesLaw 5 = .ok (.bipush 100, 2) ∧ decode cX0_usesLaw 7 = .ok (.imul, 1) ∧ decode cX0_usesLaw 8 = .ok (.iload_n 2, 1) ∧ decode cX0_usesLaw 9 = .ok (.iadd, 1) ∧ decode cX0_usesLaw 10 = .ok (.laload, 1) := by decide +kernel
theorem dX0_isSuch_112 : decode cX0_isSuch 112 = .ok (.iconst 0, 1) := gd_X0_isSuch_112.1
theorem dX0_isSuch_113 : decode cX0_isSuch 113 = .ok (.ireturn, 1) := gd_X0_isSuch_112.2.1
theorem dX0_usesLaw_0 : decode cX0_usesLaw 0 = .ok (.aload_n 0, 1) := gd_X0_isSuch_112.2.2.1
theorem dX0_usesLaw_1 : decode cX0_usesLaw 1 = .ok (.getfield 24, 3) := gd_X0_isSuch_112.2.2.2.1
theorem dX0_usesLaw_4 : decode cX0_usesLaw 4 = .ok (.iload_n 1, 1) := gd_X0_isSuch_112.2.2.2.2.1
theorem dX0_usesLaw_5 : decode cX0_usesLaw 5 = .ok (.bipush 100, 2) := gd_X0_isSuch_112.2.2.2.2.2.1
theorem dX0_usesLaw_7 : decode cX0_usesLaw 7 = .ok (.imul, 1) := gd_X0_isSuch_112.2.2.2.2.2.2.1
theorem dX0_usesLaw_8 : decode cX0_usesLaw 8 = .ok (.iload_n 2, 1) := gd_X0_isSuch_112.2.2.2.2.2.2.2.1
theorem dX0_usesLaw_9 : decode cX0_usesLaw 9 = .ok (.iadd, 1) := gd_X0_isSuch_112.2.2.2.2.2.2.2.2.1
theorem dX0_usesLaw_10 : decode cX0_usesLaw 10 = .ok (.laload, 1) := gd_X0_isSuch_112.2.2.2.2.2.2.2.2.2
theorem gd_X0_usesLaw_11 : decode cX0_usesLaw 11 = .ok (.iload_n 3, 1) ∧ decode cX0_usesLaw 12 = .ok (.lshr, 1) ∧ decode cX0_usesLaw 13 = .ok (.lconst 1, 1) ∧ decode cX0_usesLaw 14 = .ok (.land, 1) ∧ decode cX0_usesLaw 15 = .ok (.lconst 1, 1) ∧ decode cX0_usesLaw 16 = .ok (.lcmp, 1) ∧ decode cX0_usesLaw 17 = .ok (.ifCond .ne 7, 3) ∧ decode cX0_usesLaw 20 = .ok (.iconst 1, 1) ∧ decode cX0_usesLaw 21 = .ok (.goto 4, 3) ∧ decode cX0_usesLaw 24 = .ok (.iconst 0, 1) := by decide +kernel
theorem dX0_usesLaw_11 : decode cX0_usesLaw 11 = .ok (.iload_n 3, 1) := gd_X0_usesLaw_11.1
theorem dX0_usesLaw_12 : decode cX0_usesLaw 12 = .ok (.lshr, 1) := gd_X0_usesLaw_11.2.1
theorem dX0_usesLaw_13 : decode cX0_usesLaw 13 = .ok (.lconst 1, 1) := gd_X0_usesLaw_11.2.2.1
theorem dX0_usesLaw_14 : decode cX0_usesLaw 14 = .ok (.land, 1) := gd_X0_usesLaw_11.2.2.2.1
theorem dX0_usesLaw_15 : decode cX0_usesLaw 15 = .ok (.lconst 1, 1) := gd_X0_usesLaw_11.2.2.2.2.1
theorem dX0_usesLaw_16 : decode cX0_usesLaw 16 = .ok (.lcmp, 1) := gd_X0_usesLaw_11.2.2.2.2.2.1
theorem dX0_usesLaw_17 : decode cX0_usesLaw 17 = .ok (.ifCond .ne 7, 3) := gd_X0_usesLaw_11.2.2.2.2.2.2.1
theorem dX0_usesLaw_20 : decode cX0_usesLaw 20 = .ok (.iconst 1, 1) := gd_X0_usesLaw_11.2.2.2.2.2.2.2.1
theorem dX0_usesLaw_21 : decode cX0_usesLaw 21 = .ok (.goto 4, 3) := gd_X0_usesLaw_11.2.2.2.2.2.2.2.2.1
theorem dX0_usesLaw_24 : decode cX0_usesLaw 24 = .ok (.iconst 0, 1) := gd_X0_usesLaw_11.2.2.2.2.2.2.2.2.2
theorem gd_X0_usesLaw_25 : decode cX0_usesLaw 25 = .ok (.ireturn, 1) ∧ decode cX1_standsAt 0 = .ok (.iload_n 3, 1) ∧ decode cX1_standsAt 1 = .ok (.iload_n 2, 1) ∧ decode cX1_standsAt 2 = .ok (.isub, 1) ∧ decode cX1_standsAt 3 = .ok (.aload_n 0, 1) ∧ decode cX1_standsAt 4 = .ok (.getfield 23, 3) ∧ decode cX1_standsAt 7 = .ok (.arraylength, 1) ∧ decode cX1_standsAt 8 = .ok (.isub, 1) ∧ decode cX1_standsAt 9 = .ok (.istore 6, 2) ∧ decode cX1_standsAt 11 = .ok (.iload 6, 2) := by decide +kernel
theorem dX0_usesLaw_25 : decode cX0_usesLaw 25 = .ok (.ireturn, 1) := gd_X0_usesLaw_25.1
theorem dX1_standsAt_0 : decode cX1_standsAt 0 = .ok (.iload_n 3, 1) := gd_X0_usesLaw_25.2.1
theorem dX1_standsAt_1 : decode cX1_standsAt 1 = .ok (.iload_n 2, 1) := gd_X0_usesLaw_25.2.2.1
theorem dX1_standsAt_2 : decode cX1_standsAt 2 = .ok (.isub, 1) := gd_X0_usesLaw_25.2.2.2.1
theorem dX1_standsAt_3 : decode cX1_standsAt 3 = .ok (.aload_n 0, 1) := gd_X0_usesLaw_25.2.2.2.2.1
theorem dX1_standsAt_4 : decode cX1_standsAt 4 = .ok (.getfield 23, 3) := gd_X0_usesLaw_25.2.2.2.2.2.1
theorem dX1_standsAt_7 : decode cX1_standsAt 7 = .ok (.arraylength, 1) := gd_X0_usesLaw_25.2.2.2.2.2.2.1
theorem dX1_standsAt_8 : decode cX1_standsAt 8 = .ok (.isub, 1) := gd_X0_usesLaw_25.2.2.2.2.2.2.2.1
theorem dX1_standsAt_9 : decode cX1_standsAt 9 = .ok (.istore 6, 2) := gd_X0_usesLaw_25.2.2.2.2.2.2.2.2.1
theorem dX1_standsAt_11 : decode cX1_standsAt 11 = .ok (.iload 6, 2) := gd_X0_usesLaw_25.2.2.2.2.2.2.2.2.2
theorem gd_X1_standsAt_13 : decode cX1_standsAt 13 = .ok (.ifCond .lt 27, 3) ∧ decode cX1_standsAt 16 = .ok (.aload_n 0, 1) ∧ decode cX1_standsAt 17 = .ok (.getfield 16, 3) ∧ decode cX1_standsAt 20 = .ok (.ifCond .eq 8, 3) ∧ decode cX1_standsAt 23 = .ok (.iload 5, 2) ∧ decode cX1_standsAt 25 = .ok (.ifCond .gt 15, 3) ∧ decode cX1_standsAt 28 = .ok (.aload_n 0, 1) ∧ decode cX1_standsAt 29 = .ok (.getfield 20, 3) ∧ decode cX1_standsAt 32 = .ok (.ifCond .eq 10, 3) ∧ decode cX1_standsAt 35 = .ok (.iload 6, 2) := by decide +kernel
theorem dX1_standsAt_13 : decode cX1_standsAt 13 = .ok (.ifCond .lt 27, 3) := gd_X1_standsAt_13.1
theorem dX1_standsAt_16 : decode cX1_standsAt 16 = .ok (.aload_n 0, 1) := gd_X1_standsAt_13.2.1
theorem dX1_standsAt_17 : decode cX1_standsAt 17 = .ok (.getfield 16, 3) := gd_X1_standsAt_13.2.2.1
theorem dX1_standsAt_20 : decode cX1_standsAt 20 = .ok (.ifCond .eq 8, 3) := gd_X1_standsAt_13.2.2.2.1
theorem dX1_standsAt_23 : decode cX1_standsAt 23 = .ok (.iload 5, 2) := gd_X1_standsAt_13.2.2.2.2.1
theorem dX1_standsAt_25 : decode cX1_standsAt 25 = .ok (.ifCond .gt 15, 3) := gd_X1_standsAt_13.2.2.2.2.2.1
theorem dX1_standsAt_28 : decode cX1_standsAt 28 = .ok (.aload_n 0, 1) := gd_X1_standsAt_13.2.2.2.2.2.2.1
theorem dX1_standsAt_29 : decode cX1_standsAt 29 = .ok (.getfield 20, 3) := gd_X1_standsAt_13.2.2.2.2.2.2.2.1
theorem dX1_standsAt_32 : decode cX1_standsAt 32 = .ok (.ifCond .eq 10, 3) := gd_X1_standsAt_13.2.2.2.2.2.2.2.2.1
theorem dX1_standsAt_35 : decode cX1_standsAt 35 = .ok (.iload 6, 2) := gd_X1_standsAt_13.2.2.2.2.2.2.2.2.2
theorem gd_X1_standsAt_37 : decode cX1_standsAt 37 = .ok (.ifCond .le 5, 3) ∧ decode cX1_standsAt 40 = .ok (.iconst 0, 1) ∧ decode cX1_standsAt 41 = .ok (.ireturn, 1) ∧ decode cX1_standsAt 42 = .ok (.aload_n 0, 1) ∧ decode cX1_standsAt 43 = .ok (.getfield 7, 3) ∧ decode cX1_standsAt 46 = .ok (.arraylength, 1) ∧ decode cX1_standsAt 47 = .ok (.iload 5, 2) ∧ decode cX1_standsAt 49 = .ok (.if_icmp .gt 13, 3) ∧ decode cX1_standsAt 52 = .ok (.aload_n 0, 1) ∧ decode cX1_standsAt 53 = .ok (.getfield 13, 3) := by decide +kernel
theorem dX1_standsAt_37 : decode cX1_standsAt 37 = .ok (.ifCond .le 5, 3) := gd_X1_standsAt_37.1
theorem dX1_standsAt_40 : decode cX1_standsAt 40 = .ok (.iconst 0, 1) := gd_X1_standsAt_37.2.1
theorem dX1_standsAt_41 : decode cX1_standsAt 41 = .ok (.ireturn, 1) := gd_X1_standsAt_37.2.2.1
theorem dX1_standsAt_42 : decode cX1_standsAt 42 = .ok (.aload_n 0, 1) := gd_X1_standsAt_37.2.2.2.1
theorem dX1_standsAt_43 : decode cX1_standsAt 43 = .ok (.getfield 7, 3) := gd_X1_standsAt_37.2.2.2.2.1
theorem dX1_standsAt_46 : decode cX1_standsAt 46 = .ok (.arraylength, 1) := gd_X1_standsAt_37.2.2.2.2.2.1
theorem dX1_standsAt_47 : decode cX1_standsAt 47 = .ok (.iload 5, 2) := gd_X1_standsAt_37.2.2.2.2.2.2.1
theorem dX1_standsAt_49 : decode cX1_standsAt 49 = .ok (.if_icmp .gt 13, 3) := gd_X1_standsAt_37.2.2.2.2.2.2.2.1
theorem dX1_standsAt_52 : decode cX1_standsAt 52 = .ok (.aload_n 0, 1) := gd_X1_standsAt_37.2.2.2.2.2.2.2.2.1
theorem dX1_standsAt_53 : decode cX1_standsAt 53 = .ok (.getfield 13, 3) := gd_X1_standsAt_37.2.2.2.2.2.2.2.2.2
theorem gd_X1_standsAt_56 : decode cX1_standsAt 56 = .ok (.arraylength, 1) ∧ decode cX1_standsAt 57 = .ok (.iload 6, 2) ∧ decode cX1_standsAt 59 = .ok (.if_icmp .le 5, 3) ∧ decode cX1_standsAt 62 = .ok (.iconst 0, 1) ∧ decode cX1_standsAt 63 = .ok (.ireturn, 1) ∧ decode cX1_standsAt 64 = .ok (.aload_n 0, 1) ∧ decode cX1_standsAt 65 = .ok (.getfield 23, 3) ∧ decode cX1_standsAt 68 = .ok (.iconst 0, 1) ∧ decode cX1_standsAt 69 = .ok (.aload_n 1, 1) ∧ decode cX1_standsAt 70 = .ok (.iload_n 2, 1) := by decide +kernel
theorem dX1_standsAt_56 : decode cX1_standsAt 56 = .ok (.arraylength, 1) := gd_X1_standsAt_56.1
theorem dX1_standsAt_57 : decode cX1_standsAt 57 = .ok (.iload 6, 2) := gd_X1_standsAt_56.2.1
theorem dX1_standsAt_59 : decode cX1_standsAt 59 = .ok (.if_icmp .le 5, 3) := gd_X1_standsAt_56.2.2.1
theorem dX1_standsAt_62 : decode cX1_standsAt 62 = .ok (.iconst 0, 1) := gd_X1_standsAt_56.2.2.2.1
theorem dX1_standsAt_63 : decode cX1_standsAt 63 = .ok (.ireturn, 1) := gd_X1_standsAt_56.2.2.2.2.1
theorem dX1_standsAt_64 : decode cX1_standsAt 64 = .ok (.aload_n 0, 1) := gd_X1_standsAt_56.2.2.2.2.2.1
theorem dX1_standsAt_65 : decode cX1_standsAt 65 = .ok (.getfield 23, 3) := gd_X1_standsAt_56.2.2.2.2.2.2.1
theorem dX1_standsAt_68 : decode cX1_standsAt 68 = .ok (.iconst 0, 1) := gd_X1_standsAt_56.2.2.2.2.2.2.2.1
theorem dX1_standsAt_69 : decode cX1_standsAt 69 = .ok (.aload_n 1, 1) := gd_X1_standsAt_56.2.2.2.2.2.2.2.2.1
theorem dX1_standsAt_70 : decode cX1_standsAt 70 = .ok (.iload_n 2, 1) := gd_X1_standsAt_56.2.2.2.2.2.2.2.2.2
theorem gd_X1_standsAt_71 : decode cX1_standsAt 71 = .ok (.aload_n 0, 1) ∧ decode cX1_standsAt 72 = .ok (.getfield 23, 3) ∧ decode cX1_standsAt 75 = .ok (.arraylength, 1) ∧ decode cX1_standsAt 76 = .ok (.invokestatic 29, 3) ∧ decode cX1_standsAt 79 = .ok (.ifCond .eq 57, 3) ∧ decode cX1_standsAt 82 = .ok (.aload_n 0, 1) ∧ decode cX1_standsAt 83 = .ok (.getfield 7, 3) ∧ decode cX1_standsAt 86 = .ok (.iconst 0, 1) ∧ decode cX1_standsAt 87 = .ok (.aload 4, 2) ∧ decode cX1_standsAt 89 = .ok (.iload 5, 2) := by decide +kernel
theorem dX1_standsAt_71 : decode cX1_standsAt 71 = .ok (.aload_n 0, 1) := gd_X1_standsAt_71.1
theorem dX1_standsAt_72 : decode cX1_standsAt 72 = .ok (.getfield 23, 3) := gd_X1_standsAt_71.2.1
theorem dX1_standsAt_75 : decode cX1_standsAt 75 = .ok (.arraylength, 1) := gd_X1_standsAt_71.2.2.1
theorem dX1_standsAt_76 : decode cX1_standsAt 76 = .ok (.invokestatic 29, 3) := gd_X1_standsAt_71.2.2.2.1
theorem dX1_standsAt_79 : decode cX1_standsAt 79 = .ok (.ifCond .eq 57, 3) := gd_X1_standsAt_71.2.2.2.2.1
theorem dX1_standsAt_82 : decode cX1_standsAt 82 = .ok (.aload_n 0, 1) := gd_X1_standsAt_71.2.2.2.2.2.1
theorem dX1_standsAt_83 : decode cX1_standsAt 83 = .ok (.getfield 7, 3) := gd_X1_standsAt_71.2.2.2.2.2.2.1
theorem dX1_standsAt_86 : decode cX1_standsAt 86 = .ok (.iconst 0, 1) := gd_X1_standsAt_71.2.2.2.2.2.2.2.1
theorem dX1_standsAt_87 : decode cX1_standsAt 87 = .ok (.aload 4, 2) := gd_X1_standsAt_71.2.2.2.2.2.2.2.2.1
theorem dX1_standsAt_89 : decode cX1_standsAt 89 = .ok (.iload 5, 2) := gd_X1_standsAt_71.2.2.2.2.2.2.2.2.2
theorem gd_X1_standsAt_91 : decode cX1_standsAt 91 = .ok (.aload_n 0, 1) ∧ decode cX1_standsAt 92 = .ok (.getfield 7, 3) ∧ decode cX1_standsAt 95 = .ok (.arraylength, 1) ∧ decode cX1_standsAt 96 = .ok (.isub, 1) ∧ decode cX1_standsAt 97 = .ok (.aload_n 0, 1) ∧ decode cX1_standsAt 98 = .ok (.getfield 7, 3) ∧ decode cX1_standsAt 101 = .ok (.arraylength, 1) ∧ decode cX1_standsAt 102 = .ok (.invokestatic 29, 3) ∧ decode cX1_standsAt 105 = .ok (.ifCond .eq 31, 3) ∧ decode cX1_standsAt 108 = .ok (.aload_n 0, 1) := by decide +kernel
theorem dX1_standsAt_91 : decode cX1_standsAt 91 = .ok (.aload_n 0, 1) := gd_X1_standsAt_91.1
theorem dX1_standsAt_92 : decode cX1_standsAt 92 = .ok (.getfield 7, 3) := gd_X1_standsAt_91.2.1
theorem dX1_standsAt_95 : decode cX1_standsAt 95 = .ok (.arraylength, 1) := gd_X1_standsAt_91.2.2.1
theorem dX1_standsAt_96 : decode cX1_standsAt 96 = .ok (.isub, 1) := gd_X1_standsAt_91.2.2.2.1
theorem dX1_standsAt_97 : decode cX1_standsAt 97 = .ok (.aload_n 0, 1) := gd_X1_standsAt_91.2.2.2.2.1
theorem dX1_standsAt_98 : decode cX1_standsAt 98 = .ok (.getfield 7, 3) := gd_X1_standsAt_91.2.2.2.2.2.1
theorem dX1_standsAt_101 : decode cX1_standsAt 101 = .ok (.arraylength, 1) := gd_X1_standsAt_91.2.2.2.2.2.2.1
theorem dX1_standsAt_102 : decode cX1_standsAt 102 = .ok (.invokestatic 29, 3) := gd_X1_standsAt_91.2.2.2.2.2.2.2.1
theorem dX1_standsAt_105 : decode cX1_standsAt 105 = .ok (.ifCond .eq 31, 3) := gd_X1_standsAt_91.2.2.2.2.2.2.2.2.1
theorem dX1_standsAt_108 : decode cX1_standsAt 108 = .ok (.aload_n 0, 1) := gd_X1_standsAt_91.2.2.2.2.2.2.2.2.2
theorem gd_X1_standsAt_109 : decode cX1_standsAt 109 = .ok (.getfield 13, 3) ∧ decode cX1_standsAt 112 = .ok (.iconst 0, 1) ∧ decode cX1_standsAt 113 = .ok (.aload_n 1, 1) ∧ decode cX1_standsAt 114 = .ok (.iload_n 2, 1) ∧ decode cX1_standsAt 115 = .ok (.aload_n 0, 1) ∧ decode cX1_standsAt 116 = .ok (.getfield 23, 3) ∧ decode cX1_standsAt 119 = .ok (.arraylength, 1) ∧ decode cX1_standsAt 120 = .ok (.iadd, 1) ∧ decode cX1_standsAt 121 = .ok (.aload_n 0, 1) ∧ decode cX1_standsAt 122 = .ok (.getfield 13, 3) := by decide +kernel
theorem dX1_standsAt_109 : decode cX1_standsAt 109 = .ok (.getfield 13, 3) := gd_X1_standsAt_109.1
theorem dX1_standsAt_112 : decode cX1_standsAt 112 = .ok (.iconst 0, 1) := gd_X1_standsAt_109.2.1
theorem dX1_standsAt_113 : decode cX1_standsAt 113 = .ok (.aload_n 1, 1) := gd_X1_standsAt_109.2.2.1
theorem dX1_standsAt_114 : decode cX1_standsAt 114 = .ok (.iload_n 2, 1) := gd_X1_standsAt_109.2.2.2.1
theorem dX1_standsAt_115 : decode cX1_standsAt 115 = .ok (.aload_n 0, 1) := gd_X1_standsAt_109.2.2.2.2.1
theorem dX1_standsAt_116 : decode cX1_standsAt 116 = .ok (.getfield 23, 3) := gd_X1_standsAt_109.2.2.2.2.2.1
theorem dX1_standsAt_119 : decode cX1_standsAt 119 = .ok (.arraylength, 1) := gd_X1_standsAt_109.2.2.2.2.2.2.1
theorem dX1_standsAt_120 : decode cX1_standsAt 120 = .ok (.iadd, 1) := gd_X1_standsAt_109.2.2.2.2.2.2.2.1
theorem dX1_standsAt_121 : decode cX1_standsAt 121 = .ok (.aload_n 0, 1) := gd_X1_standsAt_109.2.2.2.2.2.2.2.2.1
theorem dX1_standsAt_122 : decode cX1_standsAt 122 = .ok (.getfield 13, 3) := gd_X1_standsAt_109.2.2.2.2.2.2.2.2.2
theorem gd_X1_standsAt_125 : decode cX1_standsAt 125 = .ok (.arraylength, 1) ∧ decode cX1_standsAt 126 = .ok (.invokestatic 29, 3) ∧ decode cX1_standsAt 129 = .ok (.ifCond .eq 7, 3) ∧ decode cX1_standsAt 132 = .ok (.iconst 1, 1) ∧ decode cX1_standsAt 133 = .ok (.goto 4, 3) ∧ decode cX1_standsAt 136 = .ok (.iconst 0, 1) ∧ decode cX1_standsAt 137 = .ok (.ireturn, 1) ∧ decode cX2_charge 0 = .ok (.iload_n 1, 1) ∧ decode cX2_charge 1 = .ok (.aload_n 0, 1) ∧ decode cX2_charge 2 = .ok (.getfield 25, 3) := by decide +kernel
theorem dX1_standsAt_125 : decode cX1_standsAt 125 = .ok (.arraylength, 1) := gd_X1_standsAt_125.1
theorem dX1_standsAt_126 : decode cX1_standsAt 126 = .ok (.invokestatic 29, 3) := gd_X1_standsAt_125.2.1
theorem dX1_standsAt_129 : decode cX1_standsAt 129 = .ok (.ifCond .eq 7, 3) := gd_X1_standsAt_125.2.2.1
theorem dX1_standsAt_132 : decode cX1_standsAt 132 = .ok (.iconst 1, 1) := gd_X1_standsAt_125.2.2.2.1
theorem dX1_standsAt_133 : decode cX1_standsAt 133 = .ok (.goto 4, 3) := gd_X1_standsAt_125.2.2.2.2.1
theorem dX1_standsAt_136 : decode cX1_standsAt 136 = .ok (.iconst 0, 1) := gd_X1_standsAt_125.2.2.2.2.2.1
theorem dX1_standsAt_137 : decode cX1_standsAt 137 = .ok (.ireturn, 1) := gd_X1_standsAt_125.2.2.2.2.2.2.1
theorem dX2_charge_0 : decode cX2_charge 0 = .ok (.iload_n 1, 1) := gd_X1_standsAt_125.2.2.2.2.2.2.2.1
theorem dX2_charge_1 : decode cX2_charge 1 = .ok (.aload_n 0, 1) := gd_X1_standsAt_125.2.2.2.2.2.2.2.2.1
theorem dX2_charge_2 : decode cX2_charge 2 = .ok (.getfield 25, 3) := gd_X1_standsAt_125.2.2.2.2.2.2.2.2.2
theorem gd_X2_charge_5 : decode cX2_charge 5 = .ok (.if_icmp .ge 26, 3) ∧ decode cX2_charge 8 = .ok (.iload_n 2, 1) ∧ decode cX2_charge 9 = .ok (.aload_n 0, 1) ∧ decode cX2_charge 10 = .ok (.getfield 28, 3) ∧ decode cX2_charge 13 = .ok (.if_icmp .ge 18, 3) ∧ decode cX2_charge 16 = .ok (.aload_n 0, 1) ∧ decode cX2_charge 17 = .ok (.getfield 9, 3) ∧ decode cX2_charge 20 = .ok (.iload_n 1, 1) ∧ decode cX2_charge 21 = .ok (.bipush 7, 2) ∧ decode cX2_charge 23 = .ok (.imul, 1) := by decide +kernel
theorem dX2_charge_5 : decode cX2_charge 5 = .ok (.if_icmp .ge 26, 3) := gd_X2_charge_5.1
theorem dX2_charge_8 : decode cX2_charge 8 = .ok (.iload_n 2, 1) := gd_X2_charge_5.2.1
theorem dX2_charge_9 : decode cX2_charge 9 = .ok (.aload_n 0, 1) := gd_X2_charge_5.2.2.1
theorem dX2_charge_10 : decode cX2_charge 10 = .ok (.getfield 28, 3) := gd_X2_charge_5.2.2.2.1
theorem dX2_charge_13 : decode cX2_charge 13 = .ok (.if_icmp .ge 18, 3) := gd_X2_charge_5.2.2.2.2.1
theorem dX2_charge_16 : decode cX2_charge 16 = .ok (.aload_n 0, 1) := gd_X2_charge_5.2.2.2.2.2.1
theorem dX2_charge_17 : decode cX2_charge 17 = .ok (.getfield 9, 3) := gd_X2_charge_5.2.2.2.2.2.2.1
theorem dX2_charge_20 : decode cX2_charge 20 = .ok (.iload_n 1, 1) := gd_X2_charge_5.2.2.2.2.2.2.2.1
theorem dX2_charge_21 : decode cX2_charge 21 = .ok (.bipush 7, 2) := gd_X2_charge_5.2.2.2.2.2.2.2.2.1
theorem dX2_charge_23 : decode cX2_charge 23 = .ok (.imul, 1) := gd_X2_charge_5.2.2.2.2.2.2.2.2.2
theorem gd_X2_charge_24 : decode cX2_charge 24 = .ok (.iload_n 2, 1) ∧ decode cX2_charge 25 = .ok (.iadd, 1) ∧ decode cX2_charge 26 = .ok (.dup2, 1) ∧ decode cX2_charge 27 = .ok (.iaload, 1) ∧ decode cX2_charge 28 = .ok (.iconst 1, 1) ∧ decode cX2_charge 29 = .ok (.iadd, 1) ∧ decode cX2_charge 30 = .ok (.iastore, 1) ∧ decode cX2_charge 31 = .ok (.return_, 1) ∧ decode cX2_settle 31 = .ok (.aload_n 0, 1) ∧ decode cX2_settle 32 = .ok (.iload_n 2, 1) := by decide +kernel
theorem dX2_charge_24 : decode cX2_charge 24 = .ok (.iload_n 2, 1) := gd_X2_charge_24.1
theorem dX2_charge_25 : decode cX2_charge 25 = .ok (.iadd, 1) := gd_X2_charge_24.2.1
theorem dX2_charge_26 : decode cX2_charge 26 = .ok (.dup2, 1) := gd_X2_charge_24.2.2.1
theorem dX2_charge_27 : decode cX2_charge 27 = .ok (.iaload, 1) := gd_X2_charge_24.2.2.2.1
theorem dX2_charge_28 : decode cX2_charge 28 = .ok (.iconst 1, 1) := gd_X2_charge_24.2.2.2.2.1
theorem dX2_charge_29 : decode cX2_charge 29 = .ok (.iadd, 1) := gd_X2_charge_24.2.2.2.2.2.1
theorem dX2_charge_30 : decode cX2_charge 30 = .ok (.iastore, 1) := gd_X2_charge_24.2.2.2.2.2.2.1
theorem dX2_charge_31 : decode cX2_charge 31 = .ok (.return_, 1) := gd_X2_charge_24.2.2.2.2.2.2.2.1
theorem dX2_settle_31 : decode cX2_settle 31 = .ok (.aload_n 0, 1) := gd_X2_charge_24.2.2.2.2.2.2.2.2.1
theorem dX2_settle_32 : decode cX2_settle 32 = .ok (.iload_n 2, 1) := gd_X2_charge_24.2.2.2.2.2.2.2.2.2
theorem gd_X2_settle_33 : decode cX2_settle 33 = .ok (.iconst 1, 1) ∧ decode cX2_settle 34 = .ok (.iadd, 1) ∧ decode cX2_settle 35 = .ok (.aload_n 0, 1) ∧ decode cX2_settle 36 = .ok (.iload_n 2, 1) ∧ decode cX2_settle 37 = .ok (.iconst 1, 1) ∧ decode cX2_settle 38 = .ok (.iadd, 1) ∧ decode cX2_settle 39 = .ok (.iload_n 3, 1) ∧ decode cX2_settle 40 = .ok (.iload_n 1, 1) ∧ decode cX2_settle 41 = .ok (.invokevirtual 43, 3) ∧ decode cX2_settle 44 = .ok (.iload_n 3, 1) := by decide +kernel
theorem dX2_settle_33 : decode cX2_settle 33 = .ok (.iconst 1, 1) := gd_X2_settle_33.1
theorem dX2_settle_34 : decode cX2_settle 34 = .ok (.iadd, 1) := gd_X2_settle_33.2.1
theorem dX2_settle_35 : decode cX2_settle 35 = .ok (.aload_n 0, 1) := gd_X2_settle_33.2.2.1
theorem dX2_settle_36 : decode cX2_settle 36 = .ok (.iload_n 2, 1) := gd_X2_settle_33.2.2.2.1
theorem dX2_settle_37 : decode cX2_settle 37 = .ok (.iconst 1, 1) := gd_X2_settle_33.2.2.2.2.1
theorem dX2_settle_38 : decode cX2_settle 38 = .ok (.iadd, 1) := gd_X2_settle_33.2.2.2.2.2.1
theorem dX2_settle_39 : decode cX2_settle 39 = .ok (.iload_n 3, 1) := gd_X2_settle_33.2.2.2.2.2.2.1
theorem dX2_settle_40 : decode cX2_settle 40 = .ok (.iload_n 1, 1) := gd_X2_settle_33.2.2.2.2.2.2.2.1
theorem dX2_settle_41 : decode cX2_settle 41 = .ok (.invokevirtual 43, 3) := gd_X2_settle_33.2.2.2.2.2.2.2.2.1
theorem dX2_settle_44 : decode cX2_settle 44 = .ok (.iload_n 3, 1) := gd_X2_settle_33.2.2.2.2.2.2.2.2.2
theorem gd_X2_settle_45 : decode cX2_settle 45 = .ok (.iload_n 1, 1) ∧ decode cX2_settle 46 = .ok (.invokevirtual 47, 3) ∧ decode cX2_settle 49 = .ok (.goto 4, 3) ∧ decode cX2_stageOf 16 = .ok (.aload_n 0, 1) ∧ decode cX2_stageOf 17 = .ok (.getfield 18, 3) ∧ decode cX2_stageOf 20 = .ok (.iload_n 1, 1) ∧ decode cX2_stageOf 21 = .ok (.iaload, 1) ∧ decode cX2_cheapest 15 = .ok (.aload_n 0, 1) ∧ decode cX2_cheapest 16 = .ok (.iload_n 1, 1) ∧ decode cX2_cheapest 17 = .ok (.iload 5, 2) := by decide +kernel
theorem dX2_settle_45 : decode cX2_settle 45 = .ok (.iload_n 1, 1) := gd_X2_settle_45.1
theorem dX2_settle_46 : decode cX2_settle 46 = .ok (.invokevirtual 47, 3) := gd_X2_settle_45.2.1
theorem dX2_settle_49 : decode cX2_settle 49 = .ok (.goto 4, 3) := gd_X2_settle_45.2.2.1
theorem dX2_stageOf_16 : decode cX2_stageOf 16 = .ok (.aload_n 0, 1) := gd_X2_settle_45.2.2.2.1
theorem dX2_stageOf_17 : decode cX2_stageOf 17 = .ok (.getfield 18, 3) := gd_X2_settle_45.2.2.2.2.1
theorem dX2_stageOf_20 : decode cX2_stageOf 20 = .ok (.iload_n 1, 1) := gd_X2_settle_45.2.2.2.2.2.1
theorem dX2_stageOf_21 : decode cX2_stageOf 21 = .ok (.iaload, 1) := gd_X2_settle_45.2.2.2.2.2.2.1
theorem dX2_cheapest_15 : decode cX2_cheapest 15 = .ok (.aload_n 0, 1) := gd_X2_settle_45.2.2.2.2.2.2.2.1
theorem dX2_cheapest_16 : decode cX2_cheapest 16 = .ok (.iload_n 1, 1) := gd_X2_settle_45.2.2.2.2.2.2.2.2.1
theorem dX2_cheapest_17 : decode cX2_cheapest 17 = .ok (.iload 5, 2) := gd_X2_settle_45.2.2.2.2.2.2.2.2.2
theorem gd_X2_cheapest_19 : decode cX2_cheapest 19 = .ok (.iload_n 2, 1) ∧ decode cX2_cheapest 20 = .ok (.iload_n 3, 1) ∧ decode cX2_cheapest 21 = .ok (.invokevirtual 47, 3) ∧ decode cX2_cheapest 24 = .ok (.aload_n 0, 1) ∧ decode cX2_cheapest 25 = .ok (.iload_n 1, 1) ∧ decode cX2_cheapest 26 = .ok (.iload 4, 2) ∧ decode cX2_cheapest 28 = .ok (.iload_n 2, 1) ∧ decode cX2_cheapest 29 = .ok (.iload_n 3, 1) ∧ decode cX2_cheapest 30 = .ok (.invokevirtual 47, 3) ∧ decode cX2_cheapest 33 = .ok (.if_icmp .ge 7, 3) := by decide +kernel
theorem dX2_cheapest_19 : decode cX2_cheapest 19 = .ok (.iload_n 2, 1) := gd_X2_cheapest_19.1
theorem dX2_cheapest_20 : decode cX2_cheapest 20 = .ok (.iload_n 3, 1) := gd_X2_cheapest_19.2.1
theorem dX2_cheapest_21 : decode cX2_cheapest 21 = .ok (.invokevirtual 47, 3) := gd_X2_cheapest_19.2.2.1
theorem dX2_cheapest_24 : decode cX2_cheapest 24 = .ok (.aload_n 0, 1) := gd_X2_cheapest_19.2.2.2.1
theorem dX2_cheapest_25 : decode cX2_cheapest 25 = .ok (.iload_n 1, 1) := gd_X2_cheapest_19.2.2.2.2.1
theorem dX2_cheapest_26 : decode cX2_cheapest 26 = .ok (.iload 4, 2) := gd_X2_cheapest_19.2.2.2.2.2.1
theorem dX2_cheapest_28 : decode cX2_cheapest 28 = .ok (.iload_n 2, 1) := gd_X2_cheapest_19.2.2.2.2.2.2.1
theorem dX2_cheapest_29 : decode cX2_cheapest 29 = .ok (.iload_n 3, 1) := gd_X2_cheapest_19.2.2.2.2.2.2.2.1
theorem dX2_cheapest_30 : decode cX2_cheapest 30 = .ok (.invokevirtual 47, 3) := gd_X2_cheapest_19.2.2.2.2.2.2.2.2.1
theorem dX2_cheapest_33 : decode cX2_cheapest 33 = .ok (.if_icmp .ge 7, 3) := gd_X2_cheapest_19.2.2.2.2.2.2.2.2.2
theorem gd_X2_cheapest_36 : decode cX2_cheapest 36 = .ok (.iload 5, 2) ∧ decode cX2_cheapest 38 = .ok (.istore 4, 2) ∧ decode cX2_cheapest 40 = .ok (.iinc 5 1, 3) ∧ decode cX2_cheapest 43 = .ok (.goto (-37), 3) ∧ decode cX2_cost 5 = .ok (.iload_n 3, 1) ∧ decode cX2_cost 6 = .ok (.iload_n 2, 1) ∧ decode cX2_cost 7 = .ok (.if_icmp .eq 7, 3) ∧ decode cX2_cost 10 = .ok (.iconst 1, 1) ∧ decode cX2_cost 11 = .ok (.goto 4, 3) ∧ decode cX2_cost 33 = .ok (.iload 4, 2) := by decide +kernel
theorem dX2_cheapest_36 : decode cX2_cheapest 36 = .ok (.iload 5, 2) := gd_X2_cheapest_36.1
theorem dX2_cheapest_38 : decode cX2_cheapest 38 = .ok (.istore 4, 2) := gd_X2_cheapest_36.2.1
theorem dX2_cheapest_40 : decode cX2_cheapest 40 = .ok (.iinc 5 1, 3) := gd_X2_cheapest_36.2.2.1
theorem dX2_cheapest_43 : decode cX2_cheapest 43 = .ok (.goto (-37), 3) := gd_X2_cheapest_36.2.2.2.1
theorem dX2_cost_5 : decode cX2_cost 5 = .ok (.iload_n 3, 1) := gd_X2_cheapest_36.2.2.2.2.1
theorem dX2_cost_6 : decode cX2_cost 6 = .ok (.iload_n 2, 1) := gd_X2_cheapest_36.2.2.2.2.2.1
theorem dX2_cost_7 : decode cX2_cost 7 = .ok (.if_icmp .eq 7, 3) := gd_X2_cheapest_36.2.2.2.2.2.2.1
theorem dX2_cost_10 : decode cX2_cost 10 = .ok (.iconst 1, 1) := gd_X2_cheapest_36.2.2.2.2.2.2.2.1
theorem dX2_cost_11 : decode cX2_cost 11 = .ok (.goto 4, 3) := gd_X2_cheapest_36.2.2.2.2.2.2.2.2.1
theorem dX2_cost_33 : decode cX2_cost 33 = .ok (.iload 4, 2) := gd_X2_cheapest_36.2.2.2.2.2.2.2.2.2
theorem gd_X2_cost_35 : decode cX2_cost 35 = .ok (.goto 4, 3) ∧ decode cX3_pick 0 = .ok (.iload_n 1, 1) ∧ decode cX3_pick 1 = .ok (.ifCond .lt 25, 3) ∧ decode cX3_pick 4 = .ok (.iload_n 1, 1) ∧ decode cX3_pick 5 = .ok (.aload_n 0, 1) ∧ decode cX3_pick 6 = .ok (.getfield 9, 3) ∧ decode cX3_pick 9 = .ok (.if_icmp .ge 17, 3) ∧ decode cX3_pick 12 = .ok (.iload_n 2, 1) ∧ decode cX3_pick 13 = .ok (.ifCond .lt 13, 3) ∧ decode cX3_pick 16 = .ok (.iload_n 2, 1) := by decide +kernel
theorem dX2_cost_35 : decode cX2_cost 35 = .ok (.goto 4, 3) := gd_X2_cost_35.1
theorem dX3_pick_0 : decode cX3_pick 0 = .ok (.iload_n 1, 1) := gd_X2_cost_35.2.1
theorem dX3_pick_1 : decode cX3_pick 1 = .ok (.ifCond .lt 25, 3) := gd_X2_cost_35.2.2.1
theorem dX3_pick_4 : decode cX3_pick 4 = .ok (.iload_n 1, 1) := gd_X2_cost_35.2.2.2.1
theorem dX3_pick_5 : decode cX3_pick 5 = .ok (.aload_n 0, 1) := gd_X2_cost_35.2.2.2.2.1
theorem dX3_pick_6 : decode cX3_pick 6 = .ok (.getfield 9, 3) := gd_X2_cost_35.2.2.2.2.2.1
theorem dX3_pick_9 : decode cX3_pick 9 = .ok (.if_icmp .ge 17, 3) := gd_X2_cost_35.2.2.2.2.2.2.1
theorem dX3_pick_12 : decode cX3_pick 12 = .ok (.iload_n 2, 1) := gd_X2_cost_35.2.2.2.2.2.2.2.1
theorem dX3_pick_13 : decode cX3_pick 13 = .ok (.ifCond .lt 13, 3) := gd_X2_cost_35.2.2.2.2.2.2.2.2.1
theorem dX3_pick_16 : decode cX3_pick 16 = .ok (.iload_n 2, 1) := gd_X2_cost_35.2.2.2.2.2.2.2.2.2
theorem gd_X3_pick_17 : decode cX3_pick 17 = .ok (.aload_n 0, 1) ∧ decode cX3_pick 18 = .ok (.getfield 15, 3) ∧ decode cX3_pick 21 = .ok (.iload_n 1, 1) ∧ decode cX3_pick 22 = .ok (.iaload, 1) ∧ decode cX3_pick 23 = .ok (.if_icmp .lt 5, 3) ∧ decode cX3_pick 26 = .ok (.iconst (-1), 1) ∧ decode cX3_pick 27 = .ok (.ireturn, 1) ∧ decode cX3_pick 28 = .ok (.aload_n 0, 1) ∧ decode cX3_pick 29 = .ok (.getfield 19, 3) ∧ decode cX3_pick 32 = .ok (.iload_n 1, 1) := by decide +kernel
theorem dX3_pick_17 : decode cX3_pick 17 = .ok (.aload_n 0, 1) := gd_X3_pick_17.1
theorem dX3_pick_18 : decode cX3_pick 18 = .ok (.getfield 15, 3) := gd_X3_pick_17.2.1
theorem dX3_pick_21 : decode cX3_pick 21 = .ok (.iload_n 1, 1) := gd_X3_pick_17.2.2.1
theorem dX3_pick_22 : decode cX3_pick 22 = .ok (.iaload, 1) := gd_X3_pick_17.2.2.2.1
theorem dX3_pick_23 : decode cX3_pick 23 = .ok (.if_icmp .lt 5, 3) := gd_X3_pick_17.2.2.2.2.1
theorem dX3_pick_26 : decode cX3_pick 26 = .ok (.iconst (-1), 1) := gd_X3_pick_17.2.2.2.2.2.1
theorem dX3_pick_27 : decode cX3_pick 27 = .ok (.ireturn, 1) := gd_X3_pick_17.2.2.2.2.2.2.1
theorem dX3_pick_28 : decode cX3_pick 28 = .ok (.aload_n 0, 1) := gd_X3_pick_17.2.2.2.2.2.2.2.1
theorem dX3_pick_29 : decode cX3_pick 29 = .ok (.getfield 19, 3) := gd_X3_pick_17.2.2.2.2.2.2.2.2.1
theorem dX3_pick_32 : decode cX3_pick 32 = .ok (.iload_n 1, 1) := gd_X3_pick_17.2.2.2.2.2.2.2.2.2
theorem gd_X3_pick_33 : decode cX3_pick 33 = .ok (.bipush 24, 2) ∧ decode cX3_pick 35 = .ok (.imul, 1) ∧ decode cX3_pick 36 = .ok (.iload_n 2, 1) ∧ decode cX3_pick 37 = .ok (.iadd, 1) ∧ decode cX3_pick 38 = .ok (.baload, 1) ∧ decode cX3_pick 39 = .ok (.ireturn, 1) ∧ decode cX3_lengthOf 0 = .ok (.aload_n 0, 1) ∧ decode cX3_lengthOf 1 = .ok (.iload_n 1, 1) ∧ decode cX3_lengthOf 2 = .ok (.iload_n 2, 1) ∧ decode cX3_lengthOf 3 = .ok (.invokevirtual 51, 3) := by decide +kernel
theorem dX3_pick_33 : decode cX3_pick 33 = .ok (.bipush 24, 2) := gd_X3_pick_33.1
theorem dX3_pick_35 : decode cX3_pick 35 = .ok (.imul, 1) := gd_X3_pick_33.2.1
theorem dX3_pick_36 : decode cX3_pick 36 = .ok (.iload_n 2, 1) := gd_X3_pick_33.2.2.1
theorem dX3_pick_37 : decode cX3_pick 37 = .ok (.iadd, 1) := gd_X3_pick_33.2.2.2.1
theorem dX3_pick_38 : decode cX3_pick 38 = .ok (.baload, 1) := gd_X3_pick_33.2.2.2.2.1
theorem dX3_pick_39 : decode cX3_pick 39 = .ok (.ireturn, 1) := gd_X3_pick_33.2.2.2.2.2.1
theorem dX3_lengthOf_0 : decode cX3_lengthOf 0 = .ok (.aload_n 0, 1) := gd_X3_pick_33.2.2.2.2.2.2.1
theorem dX3_lengthOf_1 : decode cX3_lengthOf 1 = .ok (.iload_n 1, 1) := gd_X3_pick_33.2.2.2.2.2.2.2.1
theorem dX3_lengthOf_2 : decode cX3_lengthOf 2 = .ok (.iload_n 2, 1) := gd_X3_pick_33.2.2.2.2.2.2.2.2.1
theorem dX3_lengthOf_3 : decode cX3_lengthOf 3 = .ok (.invokevirtual 51, 3) := gd_X3_pick_33.2.2.2.2.2.2.2.2.2
theorem gd_X3_lengthOf_6 : decode cX3_lengthOf 6 = .ok (.istore_n 3, 1) ∧ decode cX3_lengthOf 7 = .ok (.iload_n 3, 1) ∧ decode cX3_lengthOf 8 = .ok (.ifCond .lt 14, 3) ∧ decode cX3_lengthOf 11 = .ok (.iload_n 3, 1) ∧ decode cX3_lengthOf 12 = .ok (.aload_n 0, 1) ∧ decode cX3_lengthOf 13 = .ok (.getfield 38, 3) ∧ decode cX3_lengthOf 16 = .ok (.getfield 42, 3) ∧ decode cX3_lengthOf 19 = .ok (.if_icmp .lt 7, 3) ∧ decode cX3_lengthOf 22 = .ok (.iconst (-1), 1) ∧ decode cX3_lengthOf 23 = .ok (.goto 12, 3) := by decide +kernel
theorem dX3_lengthOf_6 : decode cX3_lengthOf 6 = .ok (.istore_n 3, 1) := gd_X3_lengthOf_6.1
theorem dX3_lengthOf_7 : decode cX3_lengthOf 7 = .ok (.iload_n 3, 1) := gd_X3_lengthOf_6.2.1
theorem dX3_lengthOf_8 : decode cX3_lengthOf 8 = .ok (.ifCond .lt 14, 3) := gd_X3_lengthOf_6.2.2.1
theorem dX3_lengthOf_11 : decode cX3_lengthOf 11 = .ok (.iload_n 3, 1) := gd_X3_lengthOf_6.2.2.2.1
theorem dX3_lengthOf_12 : decode cX3_lengthOf 12 = .ok (.aload_n 0, 1) := gd_X3_lengthOf_6.2.2.2.2.1
theorem dX3_lengthOf_13 : decode cX3_lengthOf 13 = .ok (.getfield 38, 3) := gd_X3_lengthOf_6.2.2.2.2.2.1
theorem dX3_lengthOf_16 : decode cX3_lengthOf 16 = .ok (.getfield 42, 3) := gd_X3_lengthOf_6.2.2.2.2.2.2.1
theorem dX3_lengthOf_19 : decode cX3_lengthOf 19 = .ok (.if_icmp .lt 7, 3) := gd_X3_lengthOf_6.2.2.2.2.2.2.2.1
theorem dX3_lengthOf_22 : decode cX3_lengthOf 22 = .ok (.iconst (-1), 1) := gd_X3_lengthOf_6.2.2.2.2.2.2.2.2.1
theorem dX3_lengthOf_23 : decode cX3_lengthOf 23 = .ok (.goto 12, 3) := gd_X3_lengthOf_6.2.2.2.2.2.2.2.2.2
theorem gd_X3_lengthOf_26 : decode cX3_lengthOf 26 = .ok (.aload_n 0, 1) ∧ decode cX3_lengthOf 27 = .ok (.getfield 38, 3) ∧ decode cX3_lengthOf 30 = .ok (.getfield 55, 3) ∧ decode cX3_lengthOf 33 = .ok (.iload_n 3, 1) ∧ decode cX3_lengthOf 34 = .ok (.iaload, 1) ∧ decode cX3_lengthOf 35 = .ok (.ireturn, 1) ∧ decode cX6_byteAt 16 = .ok (.aload_n 0, 1) ∧ decode cX6_byteAt 17 = .ok (.getfield 9, 3) ∧ decode cX6_byteAt 20 = .ok (.iload_n 1, 1) ∧ decode cX6_byteAt 21 = .ok (.baload, 1) := by decide +kernel
theorem dX3_lengthOf_26 : decode cX3_lengthOf 26 = .ok (.aload_n 0, 1) := gd_X3_lengthOf_26.1
theorem dX3_lengthOf_27 : decode cX3_lengthOf 27 = .ok (.getfield 38, 3) := gd_X3_lengthOf_26.2.1
theorem dX3_lengthOf_30 : decode cX3_lengthOf 30 = .ok (.getfield 55, 3) := gd_X3_lengthOf_26.2.2.1
theorem dX3_lengthOf_33 : decode cX3_lengthOf 33 = .ok (.iload_n 3, 1) := gd_X3_lengthOf_26.2.2.2.1
theorem dX3_lengthOf_34 : decode cX3_lengthOf 34 = .ok (.iaload, 1) := gd_X3_lengthOf_26.2.2.2.2.1
theorem dX3_lengthOf_35 : decode cX3_lengthOf 35 = .ok (.ireturn, 1) := gd_X3_lengthOf_26.2.2.2.2.2.1
theorem dX6_byteAt_16 : decode cX6_byteAt 16 = .ok (.aload_n 0, 1) := gd_X3_lengthOf_26.2.2.2.2.2.2.1
theorem dX6_byteAt_17 : decode cX6_byteAt 17 = .ok (.getfield 9, 3) := gd_X3_lengthOf_26.2.2.2.2.2.2.2.1
theorem dX6_byteAt_20 : decode cX6_byteAt 20 = .ok (.iload_n 1, 1) := gd_X3_lengthOf_26.2.2.2.2.2.2.2.2.1
theorem dX6_byteAt_21 : decode cX6_byteAt 21 = .ok (.baload, 1) := gd_X3_lengthOf_26.2.2.2.2.2.2.2.2.2
theorem gd_X6_byteAt_22 : decode cX6_byteAt 22 = .ok (.sipush 255, 3) ∧ decode cX6_byteAt 25 = .ok (.iand, 1) ∧ decode cX6_tallyOf 7 = .ok (.iload_n 1, 1) ∧ decode cX6_tallyOf 8 = .ok (.ifCond .lt 8, 3) ∧ decode cX6_tallyOf 11 = .ok (.iload_n 1, 1) ∧ decode cX6_tallyOf 12 = .ok (.iconst 5, 1) ∧ decode cX6_tallyOf 13 = .ok (.if_icmp .lt 7, 3) ∧ decode cX6_tallyOf 20 = .ok (.aload_n 0, 1) ∧ decode cX6_tallyOf 21 = .ok (.getfield 18, 3) ∧ decode cX6_tallyOf 24 = .ok (.iload_n 1, 1) := by decide +kernel
theorem dX6_byteAt_22 : decode cX6_byteAt 22 = .ok (.sipush 255, 3) := gd_X6_byteAt_22.1
theorem dX6_byteAt_25 : decode cX6_byteAt 25 = .ok (.iand, 1) := gd_X6_byteAt_22.2.1
theorem dX6_tallyOf_7 : decode cX6_tallyOf 7 = .ok (.iload_n 1, 1) := gd_X6_byteAt_22.2.2.1
theorem dX6_tallyOf_8 : decode cX6_tallyOf 8 = .ok (.ifCond .lt 8, 3) := gd_X6_byteAt_22.2.2.2.1
theorem dX6_tallyOf_11 : decode cX6_tallyOf 11 = .ok (.iload_n 1, 1) := gd_X6_byteAt_22.2.2.2.2.1
theorem dX6_tallyOf_12 : decode cX6_tallyOf 12 = .ok (.iconst 5, 1) := gd_X6_byteAt_22.2.2.2.2.2.1
theorem dX6_tallyOf_13 : decode cX6_tallyOf 13 = .ok (.if_icmp .lt 7, 3) := gd_X6_byteAt_22.2.2.2.2.2.2.1
theorem dX6_tallyOf_20 : decode cX6_tallyOf 20 = .ok (.aload_n 0, 1) := gd_X6_byteAt_22.2.2.2.2.2.2.2.1
theorem dX6_tallyOf_21 : decode cX6_tallyOf 21 = .ok (.getfield 18, 3) := gd_X6_byteAt_22.2.2.2.2.2.2.2.2.1
theorem dX6_tallyOf_24 : decode cX6_tallyOf 24 = .ok (.iload_n 1, 1) := gd_X6_byteAt_22.2.2.2.2.2.2.2.2.2
theorem gd_X6_tallyOf_25 : decode cX6_tallyOf 25 = .ok (.iaload, 1) ∧ decode cX11_parting 15 = .ok (.iload_n 2, 1) ∧ decode cX11_parting 16 = .ok (.ifCond .ge 5, 3) ∧ decode cX11_parting 21 = .ok (.iload_n 2, 1) ∧ decode cX11_parting 22 = .ok (.ifCond .ne 15, 3) ∧ decode cX11_parting 25 = .ok (.aload_n 0, 1) ∧ decode cX11_parting 26 = .ok (.getfield 60, 3) ∧ decode cX11_parting 29 = .ok (.getfield 191, 3) ∧ decode cX11_parting 32 = .ok (.iload_n 1, 1) ∧ decode cX11_parting 33 = .ok (.iaload, 1) := by decide +kernel
theorem dX6_tallyOf_25 : decode cX6_tallyOf 25 = .ok (.iaload, 1) := gd_X6_tallyOf_25.1
theorem dX11_parting_15 : decode cX11_parting 15 = .ok (.iload_n 2, 1) := gd_X6_tallyOf_25.2.1
theorem dX11_parting_16 : decode cX11_parting 16 = .ok (.ifCond .ge 5, 3) := gd_X6_tallyOf_25.2.2.1
theorem dX11_parting_21 : decode cX11_parting 21 = .ok (.iload_n 2, 1) := gd_X6_tallyOf_25.2.2.2.1
theorem dX11_parting_22 : decode cX11_parting 22 = .ok (.ifCond .ne 15, 3) := gd_X6_tallyOf_25.2.2.2.2.1
theorem dX11_parting_25 : decode cX11_parting 25 = .ok (.aload_n 0, 1) := gd_X6_tallyOf_25.2.2.2.2.2.1
theorem dX11_parting_26 : decode cX11_parting 26 = .ok (.getfield 60, 3) := gd_X6_tallyOf_25.2.2.2.2.2.2.1
theorem dX11_parting_29 : decode cX11_parting 29 = .ok (.getfield 191, 3) := gd_X6_tallyOf_25.2.2.2.2.2.2.2.1
theorem dX11_parting_32 : decode cX11_parting 32 = .ok (.iload_n 1, 1) := gd_X6_tallyOf_25.2.2.2.2.2.2.2.2.1
theorem dX11_parting_33 : decode cX11_parting 33 = .ok (.iaload, 1) := gd_X6_tallyOf_25.2.2.2.2.2.2.2.2.2
theorem gd_X11_parting_34 : decode cX11_parting 34 = .ok (.goto 14, 3) ∧ decode cX11_parting 37 = .ok (.aload_n 0, 1) ∧ decode cX11_parting 38 = .ok (.getfield 60, 3) ∧ decode cX11_parting 41 = .ok (.iload_n 1, 1) ∧ decode cX11_parting 42 = .ok (.iload_n 2, 1) ∧ decode cX11_parting 43 = .ok (.iconst 1, 1) ∧ decode cX11_parting 44 = .ok (.isub, 1) ∧ decode cX11_parting 45 = .ok (.invokevirtual 194, 3) ∧ decode cX11_parting 48 = .ok (.ireturn, 1) ∧ decode cX11_learn 22 = .ok (.aload_n 0, 1) := by decide +kernel
theorem dX11_parting_34 : decode cX11_parting 34 = .ok (.goto 14, 3) := gd_X11_parting_34.1
theorem dX11_parting_37 : decode cX11_parting 37 = .ok (.aload_n 0, 1) := gd_X11_parting_34.2.1
theorem dX11_parting_38 : decode cX11_parting 38 = .ok (.getfield 60, 3) := gd_X11_parting_34.2.2.1
theorem dX11_parting_41 : decode cX11_parting 41 = .ok (.iload_n 1, 1) := gd_X11_parting_34.2.2.2.1
theorem dX11_parting_42 : decode cX11_parting 42 = .ok (.iload_n 2, 1) := gd_X11_parting_34.2.2.2.2.1
theorem dX11_parting_43 : decode cX11_parting 43 = .ok (.iconst 1, 1) := gd_X11_parting_34.2.2.2.2.2.1
theorem dX11_parting_44 : decode cX11_parting 44 = .ok (.isub, 1) := gd_X11_parting_34.2.2.2.2.2.2.1
theorem dX11_parting_45 : decode cX11_parting 45 = .ok (.invokevirtual 194, 3) := gd_X11_parting_34.2.2.2.2.2.2.2.1
theorem dX11_parting_48 : decode cX11_parting 48 = .ok (.ireturn, 1) := gd_X11_parting_34.2.2.2.2.2.2.2.2.1
theorem dX11_learn_22 : decode cX11_learn 22 = .ok (.aload_n 0, 1) := gd_X11_parting_34.2.2.2.2.2.2.2.2.2
theorem gd_X11_learn_23 : decode cX11_learn 23 = .ok (.getfield 67, 3) ∧ decode cX11_learn 26 = .ok (.getfield 197, 3) ∧ decode cX11_learn 29 = .ok (.aload_n 0, 1) ∧ decode cX11_learn 30 = .ok (.getfield 12, 3) ∧ decode cX11_learn 33 = .ok (.getfield 120, 3) ∧ decode cX11_learn 36 = .ok (.iconst 0, 1) ∧ decode cX11_learn 37 = .ok (.iload_n 1, 1) ∧ decode cX11_learn 38 = .ok (.invokevirtual 180, 3) ∧ decode cX11_learn 41 = .ok (.istore_n 2, 1) ∧ decode cX11_learn 42 = .ok (.iload_n 2, 1) := by decide +kernel
theorem dX11_learn_23 : decode cX11_learn 23 = .ok (.getfield 67, 3) := gd_X11_learn_23.1
theorem dX11_learn_26 : decode cX11_learn 26 = .ok (.getfield 197, 3) := gd_X11_learn_23.2.1
theorem dX11_learn_29 : decode cX11_learn 29 = .ok (.aload_n 0, 1) := gd_X11_learn_23.2.2.1
theorem dX11_learn_30 : decode cX11_learn 30 = .ok (.getfield 12, 3) := gd_X11_learn_23.2.2.2.1
theorem dX11_learn_33 : decode cX11_learn 33 = .ok (.getfield 120, 3) := gd_X11_learn_23.2.2.2.2.1
theorem dX11_learn_36 : decode cX11_learn 36 = .ok (.iconst 0, 1) := gd_X11_learn_23.2.2.2.2.2.1
theorem dX11_learn_37 : decode cX11_learn 37 = .ok (.iload_n 1, 1) := gd_X11_learn_23.2.2.2.2.2.2.1
theorem dX11_learn_38 : decode cX11_learn 38 = .ok (.invokevirtual 180, 3) := gd_X11_learn_23.2.2.2.2.2.2.2.1
theorem dX11_learn_41 : decode cX11_learn 41 = .ok (.istore_n 2, 1) := gd_X11_learn_23.2.2.2.2.2.2.2.2.1
theorem dX11_learn_42 : decode cX11_learn 42 = .ok (.iload_n 2, 1) := gd_X11_learn_23.2.2.2.2.2.2.2.2.2
theorem gd_X11_learn_43 : decode cX11_learn 43 = .ok (.iconst (-1), 1) ∧ decode cX11_learn 44 = .ok (.if_icmp .eq 5, 3) ∧ decode cX11_learn 47 = .ok (.iload_n 2, 1) ∧ decode cX11_learn 48 = .ok (.ireturn, 1) ∧ decode cX11_learn 49 = .ok (.aload_n 0, 1) ∧ decode cX11_learn 50 = .ok (.getfield 67, 3) ∧ decode cX11_learn 53 = .ok (.getfield 197, 3) ∧ decode cX11_learn 56 = .ok (.invokevirtual 200, 3) ∧ decode cX11_learn 59 = .ok (.ifCond .eq 6, 3) ∧ decode cX11_learn 62 = .ok (.bipush (-3), 2) := by decide +kernel
theorem dX11_learn_43 : decode cX11_learn 43 = .ok (.iconst (-1), 1) := gd_X11_learn_43.1
theorem dX11_learn_44 : decode cX11_learn 44 = .ok (.if_icmp .eq 5, 3) := gd_X11_learn_43.2.1
theorem dX11_learn_47 : decode cX11_learn 47 = .ok (.iload_n 2, 1) := gd_X11_learn_43.2.2.1
theorem dX11_learn_48 : decode cX11_learn 48 = .ok (.ireturn, 1) := gd_X11_learn_43.2.2.2.1
theorem dX11_learn_49 : decode cX11_learn 49 = .ok (.aload_n 0, 1) := gd_X11_learn_43.2.2.2.2.1
theorem dX11_learn_50 : decode cX11_learn 50 = .ok (.getfield 67, 3) := gd_X11_learn_43.2.2.2.2.2.1
theorem dX11_learn_53 : decode cX11_learn 53 = .ok (.getfield 197, 3) := gd_X11_learn_43.2.2.2.2.2.2.1
theorem dX11_learn_56 : decode cX11_learn 56 = .ok (.invokevirtual 200, 3) := gd_X11_learn_43.2.2.2.2.2.2.2.1
theorem dX11_learn_59 : decode cX11_learn 59 = .ok (.ifCond .eq 6, 3) := gd_X11_learn_43.2.2.2.2.2.2.2.2.1
theorem dX11_learn_62 : decode cX11_learn 62 = .ok (.bipush (-3), 2) := gd_X11_learn_43.2.2.2.2.2.2.2.2.2
theorem gd_X11_learn_64 : decode cX11_learn 64 = .ok (.ireturn, 1) ∧ decode cX11_learn 65 = .ok (.aload_n 0, 1) ∧ decode cX11_learn 66 = .ok (.getfield 67, 3) ∧ decode cX11_learn 69 = .ok (.getfield 197, 3) ∧ decode cX11_learn 72 = .ok (.aload_n 0, 1) ∧ decode cX11_learn 73 = .ok (.getfield 12, 3) ∧ decode cX11_learn 76 = .ok (.getfield 120, 3) ∧ decode cX11_learn 79 = .ok (.iconst 0, 1) ∧ decode cX11_learn 80 = .ok (.iload_n 1, 1) ∧ decode cX11_learn 81 = .ok (.invokevirtual 204, 3) := by decide +kernel
theorem dX11_learn_64 : decode cX11_learn 64 = .ok (.ireturn, 1) := gd_X11_learn_64.1
theorem dX11_learn_65 : decode cX11_learn 65 = .ok (.aload_n 0, 1) := gd_X11_learn_64.2.1
theorem dX11_learn_66 : decode cX11_learn 66 = .ok (.getfield 67, 3) := gd_X11_learn_64.2.2.1
theorem dX11_learn_69 : decode cX11_learn 69 = .ok (.getfield 197, 3) := gd_X11_learn_64.2.2.2.1
theorem dX11_learn_72 : decode cX11_learn 72 = .ok (.aload_n 0, 1) := gd_X11_learn_64.2.2.2.2.1
theorem dX11_learn_73 : decode cX11_learn 73 = .ok (.getfield 12, 3) := gd_X11_learn_64.2.2.2.2.2.1
theorem dX11_learn_76 : decode cX11_learn 76 = .ok (.getfield 120, 3) := gd_X11_learn_64.2.2.2.2.2.2.1
theorem dX11_learn_79 : decode cX11_learn 79 = .ok (.iconst 0, 1) := gd_X11_learn_64.2.2.2.2.2.2.2.1
theorem dX11_learn_80 : decode cX11_learn 80 = .ok (.iload_n 1, 1) := gd_X11_learn_64.2.2.2.2.2.2.2.2.1
theorem dX11_learn_81 : decode cX11_learn 81 = .ok (.invokevirtual 204, 3) := gd_X11_learn_64.2.2.2.2.2.2.2.2.2
theorem gd_X11_learn_84 : decode cX11_learn 84 = .ok (.aload_n 0, 1) ∧ decode cX11_learn 85 = .ok (.getfield 67, 3) ∧ decode cX11_learn 88 = .ok (.getfield 197, 3) ∧ decode cX11_learn 91 = .ok (.getfield 151, 3) ∧ decode cX11_learn 94 = .ok (.iconst 1, 1) ∧ decode cX11_learn 95 = .ok (.isub, 1) ∧ decode cX11_learn 96 = .ok (.ireturn, 1) ∧ decode cX11_old 16 = .ok (.aload_n 0, 1) ∧ decode cX11_old 17 = .ok (.getfield 71, 3) ∧ decode cX11_old 20 = .ok (.iload_n 1, 1) := by decide +kernel
theorem dX11_learn_84 : decode cX11_learn 84 = .ok (.aload_n 0, 1) := gd_X11_learn_84.1
theorem dX11_learn_85 : decode cX11_learn 85 = .ok (.getfield 67, 3) := gd_X11_learn_84.2.1
theorem dX11_learn_88 : decode cX11_learn 88 = .ok (.getfield 197, 3) := gd_X11_learn_84.2.2.1
theorem dX11_learn_91 : decode cX11_learn 91 = .ok (.getfield 151, 3) := gd_X11_learn_84.2.2.2.1
theorem dX11_learn_94 : decode cX11_learn 94 = .ok (.iconst 1, 1) := gd_X11_learn_84.2.2.2.2.1
theorem dX11_learn_95 : decode cX11_learn 95 = .ok (.isub, 1) := gd_X11_learn_84.2.2.2.2.2.1
theorem dX11_learn_96 : decode cX11_learn 96 = .ok (.ireturn, 1) := gd_X11_learn_84.2.2.2.2.2.2.1
theorem dX11_old_16 : decode cX11_old 16 = .ok (.aload_n 0, 1) := gd_X11_learn_84.2.2.2.2.2.2.2.1
theorem dX11_old_17 : decode cX11_old 17 = .ok (.getfield 71, 3) := gd_X11_learn_84.2.2.2.2.2.2.2.2.1
theorem dX11_old_20 : decode cX11_old 20 = .ok (.iload_n 1, 1) := gd_X11_learn_84.2.2.2.2.2.2.2.2.2
theorem gd_X11_old_21 : decode cX11_old 21 = .ok (.iaload, 1) ∧ decode cX11_collision 16 = .ok (.aload_n 0, 1) ∧ decode cX11_collision 17 = .ok (.getfield 78, 3) ∧ decode cX11_collision 20 = .ok (.iload_n 1, 1) ∧ decode cX11_collision 21 = .ok (.iaload, 1) ∧ decode cX11_notePair 0 = .ok (.aload_n 0, 1) ∧ decode cX11_notePair 1 = .ok (.getfield 81, 3) ∧ decode cX11_notePair 4 = .ok (.sipush 200, 3) ∧ decode cX11_notePair 7 = .ok (.if_icmp .ge 23, 3) ∧ decode cX11_notePair 10 = .ok (.aload_n 0, 1) := by decide +kernel
theorem dX11_old_21 : decode cX11_old 21 = .ok (.iaload, 1) := gd_X11_old_21.1
theorem dX11_collision_16 : decode cX11_collision 16 = .ok (.aload_n 0, 1) := gd_X11_old_21.2.1
theorem dX11_collision_17 : decode cX11_collision 17 = .ok (.getfield 78, 3) := gd_X11_old_21.2.2.1
theorem dX11_collision_20 : decode cX11_collision 20 = .ok (.iload_n 1, 1) := gd_X11_old_21.2.2.2.1
theorem dX11_collision_21 : decode cX11_collision 21 = .ok (.iaload, 1) := gd_X11_old_21.2.2.2.2.1
theorem dX11_notePair_0 : decode cX11_notePair 0 = .ok (.aload_n 0, 1) := gd_X11_old_21.2.2.2.2.2.1
theorem dX11_notePair_1 : decode cX11_notePair 1 = .ok (.getfield 81, 3) := gd_X11_old_21.2.2.2.2.2.2.1
theorem dX11_notePair_4 : decode cX11_notePair 4 = .ok (.sipush 200, 3) := gd_X11_old_21.2.2.2.2.2.2.2.1
theorem dX11_notePair_7 : decode cX11_notePair 7 = .ok (.if_icmp .ge 23, 3) := gd_X11_old_21.2.2.2.2.2.2.2.2.1
theorem dX11_notePair_10 : decode cX11_notePair 10 = .ok (.aload_n 0, 1) := gd_X11_old_21.2.2.2.2.2.2.2.2.2
theorem gd_X11_notePair_11 : decode cX11_notePair 11 = .ok (.getfield 78, 3) ∧ decode cX11_notePair 14 = .ok (.aload_n 0, 1) ∧ decode cX11_notePair 15 = .ok (.getfield 81, 3) ∧ decode cX11_notePair 18 = .ok (.iload_n 1, 1) ∧ decode cX11_notePair 19 = .ok (.iastore, 1) ∧ decode cX11_notePair 20 = .ok (.aload_n 0, 1) ∧ decode cX11_notePair 21 = .ok (.dup, 1) ∧ decode cX11_notePair 22 = .ok (.getfield 81, 3) ∧ decode cX11_notePair 25 = .ok (.iconst 1, 1) ∧ decode cX11_notePair 26 = .ok (.iadd, 1) := by decide +kernel
theorem dX11_notePair_11 : decode cX11_notePair 11 = .ok (.getfield 78, 3) := gd_X11_notePair_11.1
theorem dX11_notePair_14 : decode cX11_notePair 14 = .ok (.aload_n 0, 1) := gd_X11_notePair_11.2.1
theorem dX11_notePair_15 : decode cX11_notePair 15 = .ok (.getfield 81, 3) := gd_X11_notePair_11.2.2.1
theorem dX11_notePair_18 : decode cX11_notePair 18 = .ok (.iload_n 1, 1) := gd_X11_notePair_11.2.2.2.1
theorem dX11_notePair_19 : decode cX11_notePair 19 = .ok (.iastore, 1) := gd_X11_notePair_11.2.2.2.2.1
theorem dX11_notePair_20 : decode cX11_notePair 20 = .ok (.aload_n 0, 1) := gd_X11_notePair_11.2.2.2.2.2.1
theorem dX11_notePair_21 : decode cX11_notePair 21 = .ok (.dup, 1) := gd_X11_notePair_11.2.2.2.2.2.2.1
theorem dX11_notePair_22 : decode cX11_notePair 22 = .ok (.getfield 81, 3) := gd_X11_notePair_11.2.2.2.2.2.2.2.1
theorem dX11_notePair_25 : decode cX11_notePair 25 = .ok (.iconst 1, 1) := gd_X11_notePair_11.2.2.2.2.2.2.2.2.1
theorem dX11_notePair_26 : decode cX11_notePair 26 = .ok (.iadd, 1) := gd_X11_notePair_11.2.2.2.2.2.2.2.2.2
theorem gd_X11_notePair_27 : decode cX11_notePair 27 = .ok (.putfield 81, 3) ∧ decode cX11_notePair 30 = .ok (.return_, 1) ∧ decode cX11_chargeWord 0 = .ok (.iconst 0, 1) ∧ decode cX11_chargeWord 1 = .ok (.istore_n 1, 1) ∧ decode cX11_chargeWord 2 = .ok (.iload_n 1, 1) ∧ decode cX11_chargeWord 3 = .ok (.aload_n 0, 1) ∧ decode cX11_chargeWord 4 = .ok (.getfield 22, 3) ∧ decode cX11_chargeWord 7 = .ok (.if_icmp .gt 56, 3) ∧ decode cX11_chargeWord 10 = .ok (.aload_n 0, 1) ∧ decode cX11_chargeWord 11 = .ok (.getfield 67, 3) := by decide +kernel
theorem dX11_notePair_27 : decode cX11_notePair 27 = .ok (.putfield 81, 3) := gd_X11_notePair_27.1
theorem dX11_notePair_30 : decode cX11_notePair 30 = .ok (.return_, 1) := gd_X11_notePair_27.2.1
theorem dX11_chargeWord_0 : decode cX11_chargeWord 0 = .ok (.iconst 0, 1) := gd_X11_notePair_27.2.2.1
theorem dX11_chargeWord_1 : decode cX11_chargeWord 1 = .ok (.istore_n 1, 1) := gd_X11_notePair_27.2.2.2.1
theorem dX11_chargeWord_2 : decode cX11_chargeWord 2 = .ok (.iload_n 1, 1) := gd_X11_notePair_27.2.2.2.2.1
theorem dX11_chargeWord_3 : decode cX11_chargeWord 3 = .ok (.aload_n 0, 1) := gd_X11_notePair_27.2.2.2.2.2.1
theorem dX11_chargeWord_4 : decode cX11_chargeWord 4 = .ok (.getfield 22, 3) := gd_X11_notePair_27.2.2.2.2.2.2.1
theorem dX11_chargeWord_7 : decode cX11_chargeWord 7 = .ok (.if_icmp .gt 56, 3) := gd_X11_notePair_27.2.2.2.2.2.2.2.1
theorem dX11_chargeWord_10 : decode cX11_chargeWord 10 = .ok (.aload_n 0, 1) := gd_X11_notePair_27.2.2.2.2.2.2.2.2.1
theorem dX11_chargeWord_11 : decode cX11_chargeWord 11 = .ok (.getfield 67, 3) := gd_X11_notePair_27.2.2.2.2.2.2.2.2.2
theorem gd_X11_chargeWord_14 : decode cX11_chargeWord 14 = .ok (.iload_n 1, 1) ∧ decode cX11_chargeWord 15 = .ok (.aload_n 0, 1) ∧ decode cX11_chargeWord 16 = .ok (.getfield 12, 3) ∧ decode cX11_chargeWord 19 = .ok (.getfield 120, 3) ∧ decode cX11_chargeWord 22 = .ok (.aload_n 0, 1) ∧ decode cX11_chargeWord 23 = .ok (.getfield 87, 3) ∧ decode cX11_chargeWord 26 = .ok (.getfield 262, 3) ∧ decode cX11_chargeWord 29 = .ok (.aload_n 0, 1) ∧ decode cX11_chargeWord 30 = .ok (.getfield 87, 3) ∧ decode cX11_chargeWord 33 = .ok (.getfield 258, 3) := by decide +kernel
theorem dX11_chargeWord_14 : decode cX11_chargeWord 14 = .ok (.iload_n 1, 1) := gd_X11_chargeWord_14.1
theorem dX11_chargeWord_15 : decode cX11_chargeWord 15 = .ok (.aload_n 0, 1) := gd_X11_chargeWord_14.2.1
theorem dX11_chargeWord_16 : decode cX11_chargeWord 16 = .ok (.getfield 12, 3) := gd_X11_chargeWord_14.2.2.1
theorem dX11_chargeWord_19 : decode cX11_chargeWord 19 = .ok (.getfield 120, 3) := gd_X11_chargeWord_14.2.2.2.1
theorem dX11_chargeWord_22 : decode cX11_chargeWord 22 = .ok (.aload_n 0, 1) := gd_X11_chargeWord_14.2.2.2.2.1
theorem dX11_chargeWord_23 : decode cX11_chargeWord 23 = .ok (.getfield 87, 3) := gd_X11_chargeWord_14.2.2.2.2.2.1
theorem dX11_chargeWord_26 : decode cX11_chargeWord 26 = .ok (.getfield 262, 3) := gd_X11_chargeWord_14.2.2.2.2.2.2.1
theorem dX11_chargeWord_29 : decode cX11_chargeWord 29 = .ok (.aload_n 0, 1) := gd_X11_chargeWord_14.2.2.2.2.2.2.2.1
theorem dX11_chargeWord_30 : decode cX11_chargeWord 30 = .ok (.getfield 87, 3) := gd_X11_chargeWord_14.2.2.2.2.2.2.2.2.1
theorem dX11_chargeWord_33 : decode cX11_chargeWord 33 = .ok (.getfield 258, 3) := gd_X11_chargeWord_14.2.2.2.2.2.2.2.2.2
theorem gd_X11_chargeWord_36 : decode cX11_chargeWord 36 = .ok (.invokevirtual 294, 3) ∧ decode cX11_chargeWord 39 = .ok (.ifCond .ne 18, 3) ∧ decode cX11_chargeWord 42 = .ok (.aload_n 0, 1) ∧ decode cX11_chargeWord 43 = .ok (.getfield 101, 3) ∧ decode cX11_chargeWord 46 = .ok (.aload_n 0, 1) ∧ decode cX11_chargeWord 47 = .ok (.getfield 87, 3) ∧ decode cX11_chargeWord 50 = .ok (.getfield 298, 3) ∧ decode cX11_chargeWord 53 = .ok (.iload_n 1, 1) ∧ decode cX11_chargeWord 54 = .ok (.invokevirtual 301, 3) ∧ decode cX11_chargeWord 57 = .ok (.iinc 1 1, 3) := by decide +kernel
theorem dX11_chargeWord_36 : decode cX11_chargeWord 36 = .ok (.invokevirtual 294, 3) := gd_X11_chargeWord_36.1
theorem dX11_chargeWord_39 : decode cX11_chargeWord 39 = .ok (.ifCond .ne 18, 3) := gd_X11_chargeWord_36.2.1
theorem dX11_chargeWord_42 : decode cX11_chargeWord 42 = .ok (.aload_n 0, 1) := gd_X11_chargeWord_36.2.2.1
theorem dX11_chargeWord_43 : decode cX11_chargeWord 43 = .ok (.getfield 101, 3) := gd_X11_chargeWord_36.2.2.2.1
theorem dX11_chargeWord_46 : decode cX11_chargeWord 46 = .ok (.aload_n 0, 1) := gd_X11_chargeWord_36.2.2.2.2.1
theorem dX11_chargeWord_47 : decode cX11_chargeWord 47 = .ok (.getfield 87, 3) := gd_X11_chargeWord_36.2.2.2.2.2.1
theorem dX11_chargeWord_50 : decode cX11_chargeWord 50 = .ok (.getfield 298, 3) := gd_X11_chargeWord_36.2.2.2.2.2.2.1
theorem dX11_chargeWord_53 : decode cX11_chargeWord 53 = .ok (.iload_n 1, 1) := gd_X11_chargeWord_36.2.2.2.2.2.2.2.1
theorem dX11_chargeWord_54 : decode cX11_chargeWord 54 = .ok (.invokevirtual 301, 3) := gd_X11_chargeWord_36.2.2.2.2.2.2.2.2.1
theorem dX11_chargeWord_57 : decode cX11_chargeWord 57 = .ok (.iinc 1 1, 3) := gd_X11_chargeWord_36.2.2.2.2.2.2.2.2.2
theorem gd_X11_chargeWord_60 : decode cX11_chargeWord 60 = .ok (.goto (-58), 3) ∧ decode cX11_chargeWord 63 = .ok (.return_, 1) := by decide +kernel
theorem dX11_chargeWord_60 : decode cX11_chargeWord 60 = .ok (.goto (-58), 3) := gd_X11_chargeWord_60.1
theorem dX11_chargeWord_63 : decode cX11_chargeWord 63 = .ok (.return_, 1) := gd_X11_chargeWord_60.2
set_option maxHeartbeats 4000000 in
set_option maxRecDepth 100000 in
theorem bm_X0_collide {p : Program} {l : Launch} {e : Env} {s : State} {m : MethodId} {args : Array Value} {below : List Frame} {meth : Method} {c : Code} {Q : State → Prop} {A : Nat → Prop} {dC : Nat → ClassId} {dI : Nat → Nat → Nat} {kk : Nat → ClassId} {ad : Nat → Nat} {ws : va_W} {G : Nat → Nat → Int32} {P : Nat → Nat → Option Nat} {U : Nat → Nat → Int64} {V : Nat → Nat → Nat → Int32} {X : Nat → Nat → Nat → Int64} {O : Nat → Nat → Nat → Option Nat} {kd : Nat → Nat} {ln : Nat → Nat} {cnt : Nat} {H : Heap} {locs : List Loc} {ls : Array Slot} (this : Nat) (p0 : Int32) (p1 : Int32) (p2 : Int32) (hk_this : kd this = 1) (r : Int32) (hr : f_X0_collide G P U V X O kd ln cnt this p0 p1 p2 = some r) (hx : p.tables.exec = Jvm.exec) (hb : c.code = cX0_collide) (hml : c.maxLocals = 7) (hown : s.vm.findClass RX0 = some m.cls) (hts : ∀ w ∈ vmX0_collide, w.before args s = true) (hA : ∀ q : Nat, s.heap.size ≤ q → A q) (hK : va_K (dC, dI) vwCl (cT kk) s) (hW : LW ws ad kk kd ln G P U V X O) (hT : TYP kd P O (V 0) cnt) (hP : va_P (dC, dI) vwCl ws H) (hD : va_D A ws) (hS : va_S A s.heap H locs) (hl : lv_has ls 7 [(0, .ref (ad this)), (1, .int p0), (2, .int p1), (3, .int p2)])
    (K : ∀ (pc : Nat) (ls : Array Slot) (rz : Int32) (ws : va_W) (H : Heap) (locs : List Loc), some rz = some r → is01 rz → decode cX0_collide pc = .ok (.ireturn, 1) → LW ws ad kk kd ln G P U V X O → TYP kd P O (V 0) cnt → va_P (dC, dI) vwCl ws H → va_D A ws → va_S A s.heap H locs → W p l e ({ frames := 4, cells := 0, slots := 0, locals := 109 } : Room) s m args below meth c H locs 0 0 Q (F0 m pc ls [.int rz])) : W p l e ({ frames := 4, cells := 0, slots := 0, locals := 109 } : Room) s m args below meth c H locs 0 0 Q (F0 m 0 ls []) := by
  unfold f_X0_collide at hr
  refine lv_aload_n hx hb dX0_collide_0 rfl (lv_at hl 0 rfl) ?_
  refine lv_iload_n hx hb dX0_collide_1 rfl (lv_at hl 1 rfl) ?_
  refine lv_iload_n hx hb dX0_collide_2 rfl (lv_at hl 2 rfl) ?_
  replace hr := b1S hr
  obtain ⟨r3, hc3, hr⟩ := hr
  have hFc := fr_all hD hS hA
  obtain ⟨i1, hi1⟩ := hW.o0 hk_this
  refine va_calle (va_runV (As := [.int p0, .int p1]) (rest := []) ⟨hx, hb, hml, hown, hts⟩ (m_X0_formsAt l dC dI kk ad H.size ws G P U V X O kd ln cnt this p0 p1 hk_this hW hT r3 hc3) (cwV 2 hts gc_RX0_X0_formsAt_56 rfl rfl rfl (by decide +kernel) ⟨Nat.le_of_ble_eq_true rfl, Nat.le_of_ble_eq_true rfl⟩) ⟨fun a U g mk q => by obtain ⟨q0, q1, qP, qK, qD⟩ := q; exact ⟨q0, q1, qP, va_K.moved (u := U) (U := U.calling g mk a) (Vm.Alike.refl U.vm) qK, qD⟩, va_recv hK hP (ci := 0) (q0 := i1) rfl hi1, fun U hU hW => ⟨rfl, by rw [hU], by rw [hU]; exact hP, va_K.moved hW.alike hK, hD.weaken (fun _ _ _ _ => trivial)⟩⟩ rfl rfl hl.1 rfl (lv_room (Nat.le_of_ble_eq_true rfl)) dX0_collide_3 ⟨Nat.le_of_ble_eq_true rfl, Nat.le_of_ble_eq_true rfl⟩) hS (fun q _ h => hFc q h) hFc (fun qo3 w2 t H1 locs ht hvm hw hB hz1 hk1 hS => ?_)
  obtain ⟨hw0, hW, hT, hkr3⟩ := hw
  subst hw0
  obtain ⟨hP1, hK1, hD1⟩ := hB
  rw [ht] at hP1
  obtain ⟨hP, hD⟩ := jn_all (w1 := w2) hFc hP1 hD1
  replace hP : va_P (dC, dI) vwCl w2 H1 := hP
  replace hD : va_D A w2 := hD
  clear hFc hP1 hK1 hD1 hk1 hz1 ht hvm
  generalize H1 = H at hP hS ⊢
  refine lv_astore (lv' := [(4, .ref (ad r3)), (0, .ref (ad this)), (1, .int p0), (2, .int p1), (3, .int p2)]) hx hb dX0_collide_6 hl (by decide) rfl (fun ls hl => ?_)
  refine lv_aload_n hx hb dX0_collide_8 rfl (lv_at hl 1 rfl) ?_
  refine lv_iload_n hx hb dX0_collide_9 rfl (lv_at hl 2 rfl) ?_
  refine lv_iload_n hx hb dX0_collide_10 rfl (lv_at hl 4 rfl) ?_
  replace hr := b1S hr
  obtain ⟨r11, hc11, hr⟩ := hr
  have hFc := fr_all hD hS hA
  obtain ⟨i3, hi3⟩ := hW.o0 hk_this
  refine va_calle (va_runV (As := [.int p0, .int p2]) (rest := []) ⟨hx, hb, hml, hown, hts⟩ (m_X0_formsAt l dC dI kk ad H.size w2 G P U V X O kd ln cnt this p0 p2 hk_this hW hT r11 hc11) (cwV 2 hts gc_RX0_X0_formsAt_56 rfl rfl rfl (by decide +kernel) ⟨Nat.le_of_ble_eq_true rfl, Nat.le_of_ble_eq_true rfl⟩) ⟨fun a U g mk q => by obtain ⟨q0, q1, qP, qK, qD⟩ := q; exact ⟨q0, q1, qP, va_K.moved (u := U) (U := U.calling g mk a) (Vm.Alike.refl U.vm) qK, qD⟩, va_recv hK hP (ci := 0) (q0 := i3) rfl hi3, fun U hU hW => ⟨rfl, by rw [hU], by rw [hU]; exact hP, va_K.moved hW.alike hK, hD.weaken (fun _ _ _ _ => trivial)⟩⟩ rfl rfl hl.1 rfl (lv_room (Nat.le_of_ble_eq_true rfl)) dX0_collide_11 ⟨Nat.le_of_ble_eq_true rfl, Nat.le_of_ble_eq_true rfl⟩) hS (fun q _ h => hFc q h) hFc (fun qo11 w4 t H1 locs ht hvm hw hB hz1 hk1 hS => ?_)
  obtain ⟨hw0, hW, hT, hkr11⟩ := hw
  subst hw0
  obtain ⟨hP1, hK1, hD1⟩ := hB
  rw [ht] at hP1
  obtain ⟨hP, hD⟩ := jn_all (w1 := w4) hFc hP1 hD1
  replace hP : va_P (dC, dI) vwCl w4 H1 := hP
  replace hD : va_D A w4 := hD
  clear hFc hP1 hK1 hD1 hk1 hz1 ht hvm
  generalize H1 = H at hP hS ⊢
  refine lv_astore (lv' := [(5, .ref (ad r11)), (4, .ref (ad r3)), (0, .ref (ad this)), (1, .int p0), (2, .int p1), (3, .int p2)]) hx hb dX0_collide_14 hl (by decide) rfl (fun ls hl => ?_)
  refine lv_iconst (v := 0) hx hb dX0_collide_16 (by decide +kernel) ?_
  refine lv_istore (lv' := [(6, .int 0), (5, .ref (ad r11)), (4, .ref (ad r3)), (0, .ref (ad this)), (1, .int p0), (2, .int p1), (3, .int p2)]) hx hb dX0_collide_17 hl (by decide) rfl (fun ls hl => ?_)
  have lp19 : ∀ (n19 : Nat), ∀ (y19_6 : Int32) (ws : va_W) (H : Heap) (locs : List Loc) (ls : Array Slot), L_X0_collide_19 G P U V X O kd ln cnt r3 r11 n19 y19_6 = some r → LW ws ad kk kd ln G P U V X O → TYP kd P O (V 0) cnt → va_P (dC, dI) vwCl ws H → va_D A ws → va_S A s.heap H locs → lv_has ls 7 [(4, .ref (ad r3)), (5, .ref (ad r11)), (6, .int y19_6)] → W p l e ({ frames := 4, cells := 0, slots := 0, locals := 109 } : Room) s m args below meth c H locs 0 0 Q (F0 m 19 ls []) := by
    intro n19
    induction n19 with
    | zero => intro y19_6 ws H locs ls hr hW hT hP hD hS hl; exact nomatch (show none = some r from hr)
    | succ n19 ih19 =>
      intro y19_6 ws H locs ls hr hW hT hP hD hS hl
      replace hr : B_X0_collide_19 G P U V X O kd ln cnt r3 r11 (L_X0_collide_19 G P U V X O kd ln cnt r3 r11 n19) y19_6 = some r := hr
      unfold B_X0_collide_19 at hr
      refine lv_iload hx hb dX0_collide_19 (lv_at hl 2 rfl) ?_
      refine lv_aload hx hb dX0_collide_21 (lv_at hl 0 rfl) ?_
      obtain ⟨i5, hi5⟩ := hW.o10 hkr3
      refine va_get (D := (dC, dI)) (ci := 10) (v := .int ((G 203) r3)) (C := RX10) (T := TX10) (N := 4) hx hb hts inX10 hown hK hP i5 hi5 rfl 3 (by decide) (hts (.fieldLink RX0 38 "SpellTurner$WordRow" "count" "I") ic_82) (fun _ h9 => h9) rfl dX0_collide_23 ?_
      refine lv_icmp_ge (tgt := 67) hx hb dX0_collide_26 (by decide) (fun c26 => ?_) (fun c26 => ?_)
      · replace hr := iteT c26 hr
        refine lv_iconst (v := 0) hx hb dX0_collide_67 (by decide +kernel) ?_
        exact K 68 ls _ ws H _ hr (by decide) dX0_collide_68 hW hT hP hD hS
      · replace hr := iteF c26 hr
        refine lv_aload hx hb dX0_collide_29 (lv_at hl 1 rfl) ?_
        refine lv_aload hx hb dX0_collide_31 (lv_at hl 0 rfl) ?_
        obtain ⟨i6, hi6⟩ := hW.o10 hkr3
        replace hr := nnS hr
        obtain ⟨a33, hn33, hr⟩ := hr
        have hk_a33 : kd a33 = 100 := hT.1 201 _ _ hn33
        refine va_get (D := (dC, dI)) (ci := 10) (v := .ref (ad a33)) (C := RX10) (T := TX10) (N := 4) hx hb hts inX10 hown hK hP i6 hi6 rfl 1 (by decide) (hts (.fieldLink RX0 42 "SpellTurner$WordRow" "letters" "[B") ic_83) (fun _ h9 => h9) (congrArg (fun o => some (va_re ad o)) hn33) dX0_collide_33 ?_
        refine lv_iload hx hb dX0_collide_36 (lv_at hl 2 rfl) ?_
        refine lv_aload hx hb dX0_collide_38 (lv_at hl 0 rfl) ?_
        obtain ⟨i7, hi7⟩ := hW.o10 hkr3
        refine va_get (D := (dC, dI)) (ci := 10) (v := .int ((G 200) r3)) (C := RX10) (T := TX10) (N := 4) hx hb hts inX10 hown hK hP i7 hi7 rfl 0 (by decide) (hts (.fieldLink RX0 46 "SpellTurner$WordRow" "width" "I") ic_84) (fun _ h9 => h9) rfl dX0_collide_40 ?_
        refine lv_imul hx hb dX0_collide_43 ?_
        refine lv_aload hx hb dX0_collide_44 (lv_at hl 0 rfl) ?_
        obtain ⟨i8, hi8⟩ := hW.o10 hkr3
        replace hr := nnS hr
        obtain ⟨a46, hn46, hr⟩ := hr
        have hk_a46 : kd a46 = 101 := hT.1 202 _ _ hn46
        refine va_get (D := (dC, dI)) (ci := 10) (v := .ref (ad a46)) (C := RX10) (T := TX10) (N := 4) hx hb hts inX10 hown hK hP i8 hi8 rfl 2 (by decide) (hts (.fieldLink RX0 49 "SpellTurner$WordRow" "lengths" "[I") ic_85) (fun _ h9 => h9) (congrArg (fun o => some (va_re ad o)) hn46) dX0_collide_46 ?_
        refine lv_iload hx hb dX0_collide_49 (lv_at hl 2 rfl) ?_
        obtain ⟨i9, hi9⟩ := hW.v1 hk_a46
        replace hr := iteS hr
        obtain ⟨hi51, hr⟩ := hr
        refine va_iald (f := ((V 1) a46)) hx hb hK hP i9 1 hi9 rfl (inbV hi51) dX0_collide_51 ?_
        replace hr := b1S hr
        obtain ⟨r52z, hc52, hr⟩ := hr
        have hFc := fr_all hD hS hA
        obtain ⟨i10, hi10⟩ := hW.o10 hkr11
        refine va_calli (va_runV (As := [.ref (ad a33), .int (y19_6 * ((G 200) r3)), .int (((V 1) a46) (Int32.toNatClampNeg y19_6))]) (rest := []) ⟨hx, hb, hml, hown, hts⟩ (m_X10_find l dC dI kk ad H.size ws G P U V X O kd ln cnt r11 a33 (y19_6 * ((G 200) r3)) (((V 1) a46) (Int32.toNatClampNeg y19_6)) hkr11 hk_a33 hW hT r52z hc52) (cwV 3 hts gc_RX0_X10_find_70 rfl rfl rfl (by decide +kernel) ⟨Nat.le_of_ble_eq_true rfl, Nat.le_of_ble_eq_true rfl⟩) ⟨fun a U g mk q => by obtain ⟨q0, q1, qP, qK, qD⟩ := q; exact ⟨q0, q1, qP, va_K.moved (u := U) (U := U.calling g mk a) (Vm.Alike.refl U.vm) qK, qD⟩, va_recv hK hP (ci := 10) (q0 := i10) rfl hi10, fun U hU hW => ⟨rfl, by rw [hU], by rw [hU]; exact hP, va_K.moved hW.alike hK, hD.weaken (fun _ _ _ _ => trivial)⟩⟩ rfl rfl hl.1 rfl (lv_room (Nat.le_of_ble_eq_true rfl)) dX0_collide_52 ⟨Nat.le_of_ble_eq_true rfl, Nat.le_of_ble_eq_true rfl⟩) hS (fun q _ h => hFc q h) hFc (fun r52 w11 t H1 locs ht hvm hw hB hz1 hk1 hS => ?_)
        obtain ⟨hw0, hW, hT⟩ := hw
        replace hw0 : r52 = r52z := hw0
        subst hw0
        obtain ⟨hP1, hK1, hD1⟩ := hB
        rw [ht] at hP1
        obtain ⟨hP, hD⟩ := jn_all (w1 := w11) hFc hP1 hD1
        replace hP : va_P (dC, dI) vwCl w11 H1 := hP
        replace hD : va_D A w11 := hD
        clear hFc hP1 hK1 hD1 hk1 hz1 ht hvm
        generalize H1 = H at hP hS ⊢
        refine lv_iconst (v := (-1)) hx hb dX0_collide_55 (by decide +kernel) ?_
        refine lv_icmp_eq (tgt := 61) hx hb dX0_collide_56 (by decide) (fun c56 => ?_) (fun c56 => ?_)
        · replace hr := iteT c56 hr
          refine lv_iinc (v := (y19_6 + 1)) (lv' := [(6, .int (y19_6 + 1)), (4, .ref (ad r3)), (5, .ref (ad r11))]) hx hb dX0_collide_61 hl (k := 2) rfl rfl (by decide) rfl (fun ls hl => ?_)
          refine lv_goto (tgt := 19) hx hb dX0_collide_64 (by decide) ?_
          exact ih19 (y19_6 + 1) w11 H _ ls hr hW hT hP hD hS (lv_sub hl [1, 2, 0] rfl)
        · replace hr := iteF c56 hr
          refine lv_iconst (v := 1) hx hb dX0_collide_59 (by decide +kernel) ?_
          exact K 60 ls _ w11 H _ hr (by decide) dX0_collide_60 hW hT hP hD hS
  exact lp19 NN 0 w4 H _ ls hr hW hT hP hD hS (lv_sub hl [2, 1, 0] rfl)
set_option maxHeartbeats 4000000 in
set_option maxRecDepth 100000 in
theorem m_X0_collide (l : Launch) (dC : Nat → ClassId) (dI : Nat → Nat → Nat) (kk : Nat → ClassId) (ad : Nat → Nat) (sz : Nat) (ws : va_W) (G : Nat → Nat → Int32) (P : Nat → Nat → Option Nat) (U : Nat → Nat → Int64) (V : Nat → Nat → Nat → Int32) (X : Nat → Nat → Nat → Int64) (O : Nat → Nat → Nat → Option Nat) (kd : Nat → Nat) (ln : Nat → Nat) (cnt : Nat) (this : Nat) (p0 : Int32) (p1 : Int32) (p2 : Int32) (hk_this : kd this = 1) (hW : LW ws ad kk kd ln G P U V X O) (hT : TYP kd P O (V 0) cnt) (r : Int32) (hr : f_X0_collide G P U V X O kd ln cnt this p0 p1 p2 = some r) : Met l yX0_collide vmX0_collide ({ frames := 4, cells := 0, slots := 0, locals := 109 } : Room) (va_Pc [.ref (ad this), .int p0, .int p1, .int p2] (fun U => U.heap.size = sz ∧ va_P (dC, dI) vwCl ws U.heap ∧ va_K (dC, dI) vwCl (cT kk) U ∧ va_D (fun _ => True) ws)) (va_Qi (fun (rz : Int32) (w : va_W) => rz = r ∧ LW w ad kk kd ln G P U V X O ∧ TYP kd P O (V 0) cnt) (fun w t => va_P (dC, dI) vwCl w t.heap ∧ va_K (dC, dI) vwCl (cT kk) t ∧ va_D (va_A ws sz) w) (va_A ws sz)) 0 0 (va_A ws sz) := by
  refine Met.ofW (cc := cX0_collide) (maxL := 7) (ret := (some .boolean)) (by decide) rfl ?_
  intro p e s m args below meth c s₁ B hml hv
  obtain ⟨rfl, hsz, hP, hK, hD0⟩ := hv
  have hx := B.exec
  have hb := B.bytes
  have hrt := B.returns
  have hts := atoms_spec (ws := vmX0_collide) B.pre
  have hown : s.vm.findClass RX0 = some m.cls := findClass_of_methodNamed B.named
  subst hsz
  have hD := hD0.self (sz := s.heap.size)
  generalize hAe : va_A ws s.heap.size = A at hD ⊢
  have hA : ∀ q : Nat, s.heap.size ≤ q → A q := fun q h => by rw [← hAe]; exact Or.inr h
  have hS : va_S A s.heap s.heap [] := va_S.rf
  have hl := lv_entry ([.ref (ad this), .int p0, .int p1, .int p2]) (n := 7) (Nat.le_of_ble_eq_true rfl)
  rw [lg_entry_eq]
  generalize (lg_sl ([.ref (ad this), .int p0, .int p1, .int p2]) ++ List.replicate (7 - (lg_sl ([.ref (ad this), .int p0, .int p1, .int p2])).length) Slot.unset).toArray = ls at hl ⊢
  exact bm_X0_collide this p0 p1 p2 hk_this r hr hx hb hml hown hts hA hK hW hT hP hD hS hl (fun pc ls rz ws H locs he hz hd hW hT hP hD hS => by cases he; exact W.zret (v := r) hx hb hrt (z_nb hz) (fun t ht hW9 => ⟨⟨r, ws, rfl, ⟨rfl, hW, hT⟩, by rw [ht]; exact hP, va_K.moved hW9.alike hK, hD⟩, hS.F ht⟩) hS.2.2 hd)
set_option maxHeartbeats 4000000 in
set_option maxRecDepth 100000 in
theorem bm_X0_formsRhyme {p : Program} {l : Launch} {e : Env} {s : State} {m : MethodId} {args : Array Value} {below : List Frame} {meth : Method} {c : Code} {Q : State → Prop} {A : Nat → Prop} {dC : Nat → ClassId} {dI : Nat → Nat → Nat} {kk : Nat → ClassId} {ad : Nat → Nat} {ws : va_W} {G : Nat → Nat → Int32} {P : Nat → Nat → Option Nat} {U : Nat → Nat → Int64} {V : Nat → Nat → Nat → Int32} {X : Nat → Nat → Nat → Int64} {O : Nat → Nat → Nat → Option Nat} {kd : Nat → Nat} {ln : Nat → Nat} {cnt : Nat} {H : Heap} {locs : List Loc} {ls : Array Slot} (this : Nat) (p0 : Int32) (p1 : Int32) (p2 : Int32) (hk_this : kd this = 1) (r : Int32) (hr : f_X0_formsRhyme G P U V X O kd ln cnt this p0 p1 p2 = some r) (hx : p.tables.exec = Jvm.exec) (hb : c.code = cX0_formsRhyme) (hml : c.maxLocals = 8) (hown : s.vm.findClass RX0 = some m.cls) (hts : ∀ w ∈ vmX0_formsRhyme, w.before args s = true) (hA : ∀ q : Nat, s.heap.size ≤ q → A q) (hK : va_K (dC, dI) vwCl (cT kk) s) (hW : LW ws ad kk kd ln G P U V X O) (hT : TYP kd P O (V 0) cnt) (hP : va_P (dC, dI) vwCl ws H) (hD : va_D A ws) (hS : va_S A s.heap H locs) (hl : lv_has ls 8 [(0, .ref (ad this)), (1, .int p0), (2, .int p1), (3, .int p2)])
    (K : ∀ (pc : Nat) (ls : Array Slot) (rz : Int32) (ws : va_W) (H : Heap) (locs : List Loc), some rz = some r → is01 rz → decode cX0_formsRhyme pc = .ok (.ireturn, 1) → LW ws ad kk kd ln G P U V X O → TYP kd P O (V 0) cnt → va_P (dC, dI) vwCl ws H → va_D A ws → va_S A s.heap H locs → W p l e ({ frames := 4, cells := 0, slots := 0, locals := 110 } : Room) s m args below meth c H locs 0 0 Q (F0 m pc ls [.int rz])) : W p l e ({ frames := 4, cells := 0, slots := 0, locals := 110 } : Room) s m args below meth c H locs 0 0 Q (F0 m 0 ls []) := by
  unfold f_X0_formsRhyme at hr
  refine lv_aload_n hx hb dX0_formsRhyme_0 rfl (lv_at hl 0 rfl) ?_
  refine lv_iload_n hx hb dX0_formsRhyme_1 rfl (lv_at hl 1 rfl) ?_
  refine lv_iload_n hx hb dX0_formsRhyme_2 rfl (lv_at hl 2 rfl) ?_
  replace hr := b1S hr
  obtain ⟨r3, hc3, hr⟩ := hr
  have hFc := fr_all hD hS hA
  obtain ⟨i1, hi1⟩ := hW.o0 hk_this
  refine va_calle (va_runV (As := [.int p0, .int p1]) (rest := []) ⟨hx, hb, hml, hown, hts⟩ (m_X0_formsAt l dC dI kk ad H.size ws G P U V X O kd ln cnt this p0 p1 hk_this hW hT r3 hc3) (cwV 2 hts gc_RX0_X0_formsAt_56 rfl rfl rfl (by decide +kernel) ⟨Nat.le_of_ble_eq_true rfl, Nat.le_of_ble_eq_true rfl⟩) ⟨fun a U g mk q => by obtain ⟨q0, q1, qP, qK, qD⟩ := q; exact ⟨q0, q1, qP, va_K.moved (u := U) (U := U.calling g mk a) (Vm.Alike.refl U.vm) qK, qD⟩, va_recv hK hP (ci := 0) (q0 := i1) rfl hi1, fun U hU hW => ⟨rfl, by rw [hU], by rw [hU]; exact hP, va_K.moved hW.alike hK, hD.weaken (fun _ _ _ _ => trivial)⟩⟩ rfl rfl hl.1 rfl (lv_room (Nat.le_of_ble_eq_true rfl)) dX0_formsRhyme_3 ⟨Nat.le_of_ble_eq_true rfl, Nat.le_of_ble_eq_true rfl⟩) hS (fun q _ h => hFc q h) hFc (fun qo3 w2 t H1 locs ht hvm hw hB hz1 hk1 hS => ?_)
  obtain ⟨hw0, hW, hT, hkr3⟩ := hw
  subst hw0
  obtain ⟨hP1, hK1, hD1⟩ := hB
  rw [ht] at hP1
  obtain ⟨hP, hD⟩ := jn_all (w1 := w2) hFc hP1 hD1
  replace hP : va_P (dC, dI) vwCl w2 H1 := hP
  replace hD : va_D A w2 := hD
  clear hFc hP1 hK1 hD1 hk1 hz1 ht hvm
  generalize H1 = H at hP hS ⊢
  refine lv_astore (lv' := [(4, .ref (ad r3)), (0, .ref (ad this)), (1, .int p0), (2, .int p1), (3, .int p2)]) hx hb dX0_formsRhyme_6 hl (by decide) rfl (fun ls hl => ?_)
  refine lv_aload_n hx hb dX0_formsRhyme_8 rfl (lv_at hl 1 rfl) ?_
  refine lv_iload_n hx hb dX0_formsRhyme_9 rfl (lv_at hl 2 rfl) ?_
  refine lv_iload_n hx hb dX0_formsRhyme_10 rfl (lv_at hl 4 rfl) ?_
  replace hr := b1S hr
  obtain ⟨r11, hc11, hr⟩ := hr
  have hFc := fr_all hD hS hA
  obtain ⟨i3, hi3⟩ := hW.o0 hk_this
  refine va_calle (va_runV (As := [.int p0, .int p2]) (rest := []) ⟨hx, hb, hml, hown, hts⟩ (m_X0_formsAt l dC dI kk ad H.size w2 G P U V X O kd ln cnt this p0 p2 hk_this hW hT r11 hc11) (cwV 2 hts gc_RX0_X0_formsAt_56 rfl rfl rfl (by decide +kernel) ⟨Nat.le_of_ble_eq_true rfl, Nat.le_of_ble_eq_true rfl⟩) ⟨fun a U g mk q => by obtain ⟨q0, q1, qP, qK, qD⟩ := q; exact ⟨q0, q1, qP, va_K.moved (u := U) (U := U.calling g mk a) (Vm.Alike.refl U.vm) qK, qD⟩, va_recv hK hP (ci := 0) (q0 := i3) rfl hi3, fun U hU hW => ⟨rfl, by rw [hU], by rw [hU]; exact hP, va_K.moved hW.alike hK, hD.weaken (fun _ _ _ _ => trivial)⟩⟩ rfl rfl hl.1 rfl (lv_room (Nat.le_of_ble_eq_true rfl)) dX0_formsRhyme_11 ⟨Nat.le_of_ble_eq_true rfl, Nat.le_of_ble_eq_true rfl⟩) hS (fun q _ h => hFc q h) hFc (fun qo11 w4 t H1 locs ht hvm hw hB hz1 hk1 hS => ?_)
  obtain ⟨hw0, hW, hT, hkr11⟩ := hw
  subst hw0
  obtain ⟨hP1, hK1, hD1⟩ := hB
  rw [ht] at hP1
  obtain ⟨hP, hD⟩ := jn_all (w1 := w4) hFc hP1 hD1
  replace hP : va_P (dC, dI) vwCl w4 H1 := hP
  replace hD : va_D A w4 := hD
  clear hFc hP1 hK1 hD1 hk1 hz1 ht hvm
  generalize H1 = H at hP hS ⊢
  refine lv_astore (lv' := [(5, .ref (ad r11)), (4, .ref (ad r3)), (0, .ref (ad this)), (1, .int p0), (2, .int p1), (3, .int p2)]) hx hb dX0_formsRhyme_14 hl (by decide) rfl (fun ls hl => ?_)
  refine lv_iconst (v := 0) hx hb dX0_formsRhyme_16 (by decide +kernel) ?_
  refine lv_istore (lv' := [(6, .int 0), (5, .ref (ad r11)), (4, .ref (ad r3)), (0, .ref (ad this)), (1, .int p0), (2, .int p1), (3, .int p2)]) hx hb dX0_formsRhyme_17 hl (by decide) rfl (fun ls hl => ?_)
  have lp19 : ∀ (n19 : Nat), ∀ (y19_6 : Int32) (ws : va_W) (H : Heap) (locs : List Loc) (ls : Array Slot), L_X0_formsRhyme_19 G P U V X O kd ln cnt r3 r11 n19 y19_6 = some r → LW ws ad kk kd ln G P U V X O → TYP kd P O (V 0) cnt → va_P (dC, dI) vwCl ws H → va_D A ws → va_S A s.heap H locs → lv_has ls 8 [(4, .ref (ad r3)), (5, .ref (ad r11)), (6, .int y19_6)] → W p l e ({ frames := 4, cells := 0, slots := 0, locals := 110 } : Room) s m args below meth c H locs 0 0 Q (F0 m 19 ls []) := by
    intro n19
    induction n19 with
    | zero => intro y19_6 ws H locs ls hr hW hT hP hD hS hl; exact nomatch (show none = some r from hr)
    | succ n19 ih19 =>
      intro y19_6 ws H locs ls hr hW hT hP hD hS hl
      replace hr : B_X0_formsRhyme_19 G P U V X O kd ln cnt r3 r11 (L_X0_formsRhyme_19 G P U V X O kd ln cnt r3 r11 n19) y19_6 = some r := hr
      unfold B_X0_formsRhyme_19 at hr
      refine lv_iload hx hb dX0_formsRhyme_19 (lv_at hl 2 rfl) ?_
      refine lv_aload hx hb dX0_formsRhyme_21 (lv_at hl 0 rfl) ?_
      obtain ⟨i5, hi5⟩ := hW.o10 hkr3
      refine va_get (D := (dC, dI)) (ci := 10) (v := .int ((G 203) r3)) (C := RX10) (T := TX10) (N := 4) hx hb hts inX10 hown hK hP i5 hi5 rfl 3 (by decide) (hts (.fieldLink RX0 38 "SpellTurner$WordRow" "count" "I") ic_82) (fun _ h9 => h9) rfl dX0_formsRhyme_23 ?_
      refine lv_icmp_ge (tgt := 70) hx hb dX0_formsRhyme_26 (by decide) (fun c26 => ?_) (fun c26 => ?_)
      · replace hr := iteT c26 hr
        refine lv_iconst (v := 0) hx hb dX0_formsRhyme_70 (by decide +kernel) ?_
        exact K 71 ls _ ws H _ hr (by decide) dX0_formsRhyme_71 hW hT hP hD hS
      · replace hr := iteF c26 hr
        refine lv_iconst (v := 0) hx hb dX0_formsRhyme_29 (by decide +kernel) ?_
        refine lv_istore (lv' := [(7, .int 0), (4, .ref (ad r3)), (5, .ref (ad r11)), (6, .int y19_6)]) hx hb dX0_formsRhyme_30 hl (by decide) rfl (fun ls hl => ?_)
        replace hr := jnS hr
        obtain ⟨k64, hk64, hr⟩ := hr
        have Jk64 : ∀ (ws : va_W) (H : Heap) (locs : List Loc) (ls : Array Slot), k64 () = some r → LW ws ad kk kd ln G P U V X O → TYP kd P O (V 0) cnt → va_P (dC, dI) vwCl ws H → va_D A ws → va_S A s.heap H locs → lv_has ls 8 [(4, .ref (ad r3)), (5, .ref (ad r11)), (6, .int y19_6)] → W p l e ({ frames := 4, cells := 0, slots := 0, locals := 110 } : Room) s m args below meth c H locs 0 0 Q (F0 m 64 ls []) := by
          intro ws H locs ls hr hW hT hP hD hS hl
          rw [hk64] at hr
          refine lv_iinc (v := (y19_6 + 1)) (lv' := [(6, .int (y19_6 + 1)), (4, .ref (ad r3)), (5, .ref (ad r11))]) hx hb dX0_formsRhyme_64 hl (k := 2) rfl rfl (by decide) rfl (fun ls hl => ?_)
          refine lv_goto (tgt := 19) hx hb dX0_formsRhyme_67 (by decide) ?_
          exact ih19 (y19_6 + 1) ws H _ ls hr hW hT hP hD hS (lv_sub hl [1, 2, 0] rfl)
        have lp32 : ∀ (n32 : Nat), ∀ (y32_7 : Int32) (ws : va_W) (H : Heap) (locs : List Loc) (ls : Array Slot), L_X0_formsRhyme_32 G P U V X O kd ln cnt r3 r11 y19_6 k64 n32 y32_7 = some r → LW ws ad kk kd ln G P U V X O → TYP kd P O (V 0) cnt → va_P (dC, dI) vwCl ws H → va_D A ws → va_S A s.heap H locs → lv_has ls 8 [(4, .ref (ad r3)), (5, .ref (ad r11)), (6, .int y19_6), (7, .int y32_7)] → W p l e ({ frames := 4, cells := 0, slots := 0, locals := 110 } : Room) s m args below meth c H locs 0 0 Q (F0 m 32 ls []) := by
          intro n32
          induction n32 with
          | zero => intro y32_7 ws H locs ls hr hW hT hP hD hS hl; exact nomatch (show none = some r from hr)
          | succ n32 ih32 =>
            intro y32_7 ws H locs ls hr hW hT hP hD hS hl
            replace hr : B_X0_formsRhyme_32 G P U V X O kd ln cnt r3 r11 y19_6 k64 (L_X0_formsRhyme_32 G P U V X O kd ln cnt r3 r11 y19_6 k64 n32) y32_7 = some r := hr
            unfold B_X0_formsRhyme_32 at hr
            refine lv_iload hx hb dX0_formsRhyme_32 (lv_at hl 3 rfl) ?_
            refine lv_aload hx hb dX0_formsRhyme_34 (lv_at hl 1 rfl) ?_
            obtain ⟨i6, hi6⟩ := hW.o10 hkr11
            refine va_get (D := (dC, dI)) (ci := 10) (v := .int ((G 203) r11)) (C := RX10) (T := TX10) (N := 4) hx hb hts inX10 hown hK hP i6 hi6 rfl 3 (by decide) (hts (.fieldLink RX0 38 "SpellTurner$WordRow" "count" "I") ic_82) (fun _ h9 => h9) rfl dX0_formsRhyme_36 ?_
            refine lv_icmp_ge (tgt := 64) hx hb dX0_formsRhyme_39 (by decide) (fun c39 => ?_) (fun c39 => ?_)
            · replace hr := iteT c39 hr
              exact Jk64 ws H _ ls hr hW hT hP hD hS (lv_sub hl [0, 1, 2] rfl)
            · replace hr := iteF c39 hr
              refine lv_aload hx hb dX0_formsRhyme_42 (lv_at hl 0 rfl) ?_
              refine lv_iload hx hb dX0_formsRhyme_44 (lv_at hl 2 rfl) ?_
              refine lv_aload hx hb dX0_formsRhyme_46 (lv_at hl 1 rfl) ?_
              refine lv_iload hx hb dX0_formsRhyme_48 (lv_at hl 3 rfl) ?_
              replace hr := b1S hr
              obtain ⟨r50z, hc50, hr⟩ := hr
              have hFc := fr_all hD hS hA
              obtain ⟨i7, hi7⟩ := hW.o10 hkr3
              refine va_calli (va_runV (As := [.int y19_6, .ref (ad r11), .int y32_7]) (rest := []) ⟨hx, hb, hml, hown, hts⟩ (m_X10_endsAlike l dC dI kk ad H.size ws G P U V X O kd ln cnt r3 y19_6 r11 y32_7 hkr3 hkr11 hW hT r50z hc50) (cwV 3 hts gc_RX0_X10_endsAlike_74 rfl rfl rfl (by decide +kernel) ⟨Nat.le_of_ble_eq_true rfl, Nat.le_of_ble_eq_true rfl⟩) ⟨fun a U g mk q => by obtain ⟨q0, q1, qP, qK, qD⟩ := q; exact ⟨q0, q1, qP, va_K.moved (u := U) (U := U.calling g mk a) (Vm.Alike.refl U.vm) qK, qD⟩, va_recv hK hP (ci := 10) (q0 := i7) rfl hi7, fun U hU hW => ⟨rfl, by rw [hU], by rw [hU]; exact hP, va_K.moved hW.alike hK, hD.weaken (fun _ _ _ _ => trivial)⟩⟩ rfl rfl hl.1 rfl (lv_room (Nat.le_of_ble_eq_true rfl)) dX0_formsRhyme_50 ⟨Nat.le_of_ble_eq_true rfl, Nat.le_of_ble_eq_true rfl⟩) hS (fun q _ h => hFc q h) hFc (fun r50 w8 t H1 locs ht hvm hw hB hz1 hk1 hS => ?_)
              obtain ⟨hw0, hW, hT⟩ := hw
              replace hw0 : r50 = r50z := hw0
              subst hw0
              obtain ⟨hP1, hK1, hD1⟩ := hB
              rw [ht] at hP1
              obtain ⟨hP, hD⟩ := jn_all (w1 := w8) hFc hP1 hD1
              replace hP : va_P (dC, dI) vwCl w8 H1 := hP
              replace hD : va_D A w8 := hD
              clear hFc hP1 hK1 hD1 hk1 hz1 ht hvm
              generalize H1 = H at hP hS ⊢
              refine lv_if_eq (tgt := 58) hx hb dX0_formsRhyme_53 (by decide) (fun c53 => ?_) (fun c53 => ?_)
              · replace hr := iteT c53 hr
                refine lv_iinc (v := (y32_7 + 1)) (lv' := [(7, .int (y32_7 + 1)), (4, .ref (ad r3)), (5, .ref (ad r11)), (6, .int y19_6)]) hx hb dX0_formsRhyme_58 hl (k := 3) rfl rfl (by decide) rfl (fun ls hl => ?_)
                refine lv_goto (tgt := 32) hx hb dX0_formsRhyme_61 (by decide) ?_
                exact ih32 (y32_7 + 1) w8 H _ ls hr hW hT hP hD hS (lv_sub hl [1, 2, 3, 0] rfl)
              · replace hr := iteF c53 hr
                refine lv_iconst (v := 1) hx hb dX0_formsRhyme_56 (by decide +kernel) ?_
                exact K 57 ls _ w8 H _ hr (by decide) dX0_formsRhyme_57 hW hT hP hD hS
        exact lp32 NN 0 ws H _ ls hr hW hT hP hD hS (lv_sub hl [1, 2, 3, 0] rfl)
  exact lp19 NN 0 w4 H _ ls hr hW hT hP hD hS (lv_sub hl [2, 1, 0] rfl)
set_option maxHeartbeats 4000000 in
set_option maxRecDepth 100000 in
theorem m_X0_formsRhyme (l : Launch) (dC : Nat → ClassId) (dI : Nat → Nat → Nat) (kk : Nat → ClassId) (ad : Nat → Nat) (sz : Nat) (ws : va_W) (G : Nat → Nat → Int32) (P : Nat → Nat → Option Nat) (U : Nat → Nat → Int64) (V : Nat → Nat → Nat → Int32) (X : Nat → Nat → Nat → Int64) (O : Nat → Nat → Nat → Option Nat) (kd : Nat → Nat) (ln : Nat → Nat) (cnt : Nat) (this : Nat) (p0 : Int32) (p1 : Int32) (p2 : Int32) (hk_this : kd this = 1) (hW : LW ws ad kk kd ln G P U V X O) (hT : TYP kd P O (V 0) cnt) (r : Int32) (hr : f_X0_formsRhyme G P U V X O kd ln cnt this p0 p1 p2 = some r) : Met l yX0_formsRhyme vmX0_formsRhyme ({ frames := 4, cells := 0, slots := 0, locals := 110 } : Room) (va_Pc [.ref (ad this), .int p0, .int p1, .int p2] (fun U => U.heap.size = sz ∧ va_P (dC, dI) vwCl ws U.heap ∧ va_K (dC, dI) vwCl (cT kk) U ∧ va_D (fun _ => True) ws)) (va_Qi (fun (rz : Int32) (w : va_W) => rz = r ∧ LW w ad kk kd ln G P U V X O ∧ TYP kd P O (V 0) cnt) (fun w t => va_P (dC, dI) vwCl w t.heap ∧ va_K (dC, dI) vwCl (cT kk) t ∧ va_D (va_A ws sz) w) (va_A ws sz)) 0 0 (va_A ws sz) := by
  refine Met.ofW (cc := cX0_formsRhyme) (maxL := 8) (ret := (some .boolean)) (by decide) rfl ?_
  intro p e s m args below meth c s₁ B hml hv
  obtain ⟨rfl, hsz, hP, hK, hD0⟩ := hv
  have hx := B.exec
  have hb := B.bytes
  have hrt := B.returns
  have hts := atoms_spec (ws := vmX0_formsRhyme) B.pre
  have hown : s.vm.findClass RX0 = some m.cls := findClass_of_methodNamed B.named
  subst hsz
  have hD := hD0.self (sz := s.heap.size)
  generalize hAe : va_A ws s.heap.size = A at hD ⊢
  have hA : ∀ q : Nat, s.heap.size ≤ q → A q := fun q h => by rw [← hAe]; exact Or.inr h
  have hS : va_S A s.heap s.heap [] := va_S.rf
  have hl := lv_entry ([.ref (ad this), .int p0, .int p1, .int p2]) (n := 8) (Nat.le_of_ble_eq_true rfl)
  rw [lg_entry_eq]
  generalize (lg_sl ([.ref (ad this), .int p0, .int p1, .int p2]) ++ List.replicate (8 - (lg_sl ([.ref (ad this), .int p0, .int p1, .int p2])).length) Slot.unset).toArray = ls at hl ⊢
  exact bm_X0_formsRhyme this p0 p1 p2 hk_this r hr hx hb hml hown hts hA hK hW hT hP hD hS hl (fun pc ls rz ws H locs he hz hd hW hT hP hD hS => by cases he; exact W.zret (v := r) hx hb hrt (z_nb hz) (fun t ht hW9 => ⟨⟨r, ws, rfl, ⟨rfl, hW, hT⟩, by rw [ht]; exact hP, va_K.moved hW9.alike hK, hD⟩, hS.F ht⟩) hS.2.2 hd)
set_option maxHeartbeats 4000000 in
set_option maxRecDepth 100000 in
theorem bm_X0_hasForm {p : Program} {l : Launch} {e : Env} {s : State} {m : MethodId} {args : Array Value} {below : List Frame} {meth : Method} {c : Code} {Q : State → Prop} {A : Nat → Prop} {dC : Nat → ClassId} {dI : Nat → Nat → Nat} {kk : Nat → ClassId} {ad : Nat → Nat} {ws : va_W} {G : Nat → Nat → Int32} {P : Nat → Nat → Option Nat} {U : Nat → Nat → Int64} {V : Nat → Nat → Nat → Int32} {X : Nat → Nat → Nat → Int64} {O : Nat → Nat → Nat → Option Nat} {kd : Nat → Nat} {ln : Nat → Nat} {cnt : Nat} {H : Heap} {locs : List Loc} {ls : Array Slot} (this : Nat) (p0 : Int32) (p1 : Nat) (p2 : Int32) (p3 : Int32) (hk_this : kd this = 1) (hk_p1 : kd p1 = 100) (r : Int32) (hr : f_X0_hasForm G P U V X O kd ln cnt this p0 p1 p2 p3 = some r) (hx : p.tables.exec = Jvm.exec) (hb : c.code = cX0_hasForm) (hml : c.maxLocals = 6) (hown : s.vm.findClass RX0 = some m.cls) (hts : ∀ w ∈ vmX0_hasForm, w.before args s = true) (hA : ∀ q : Nat, s.heap.size ≤ q → A q) (hK : va_K (dC, dI) vwCl (cT kk) s) (hW : LW ws ad kk kd ln G P U V X O) (hT : TYP kd P O (V 0) cnt) (hP : va_P (dC, dI) vwCl ws H) (hD : va_D A ws) (hS : va_S A s.heap H locs) (hl : lv_has ls 6 [(0, .ref (ad this)), (1, .int p0), (2, .ref (ad p1)), (3, .int p2), (4, .int p3)])
    (K : ∀ (pc : Nat) (ls : Array Slot) (rz : Int32) (ws : va_W) (H : Heap) (locs : List Loc), some rz = some r → is01 rz → decode cX0_hasForm pc = .ok (.ireturn, 1) → LW ws ad kk kd ln G P U V X O → TYP kd P O (V 0) cnt → va_P (dC, dI) vwCl ws H → va_D A ws → va_S A s.heap H locs → W p l e ({ frames := 4, cells := 0, slots := 0, locals := 109 } : Room) s m args below meth c H locs 0 0 Q (F0 m pc ls [.int rz])) : W p l e ({ frames := 4, cells := 0, slots := 0, locals := 109 } : Room) s m args below meth c H locs 0 0 Q (F0 m 0 ls []) := by
  unfold f_X0_hasForm at hr
  refine lv_iconst (v := 0) hx hb dX0_hasForm_0 (by decide +kernel) ?_
  refine lv_istore (lv' := [(5, .int 0), (0, .ref (ad this)), (1, .int p0), (2, .ref (ad p1)), (3, .int p2), (4, .int p3)]) hx hb dX0_hasForm_1 hl (by decide) rfl (fun ls hl => ?_)
  have lp3 : ∀ (n3 : Nat), ∀ (y3_5 : Int32) (ws : va_W) (H : Heap) (locs : List Loc) (ls : Array Slot), L_X0_hasForm_3 G P U V X O kd ln cnt this p0 p1 p2 p3 n3 y3_5 = some r → LW ws ad kk kd ln G P U V X O → TYP kd P O (V 0) cnt → va_P (dC, dI) vwCl ws H → va_D A ws → va_S A s.heap H locs → lv_has ls 6 [(0, .ref (ad this)), (1, .int p0), (2, .ref (ad p1)), (3, .int p2), (4, .int p3), (5, .int y3_5)] → W p l e ({ frames := 4, cells := 0, slots := 0, locals := 109 } : Room) s m args below meth c H locs 0 0 Q (F0 m 3 ls []) := by
    intro n3
    induction n3 with
    | zero => intro y3_5 ws H locs ls hr hW hT hP hD hS hl; exact nomatch (show none = some r from hr)
    | succ n3 ih3 =>
      intro y3_5 ws H locs ls hr hW hT hP hD hS hl
      replace hr : B_X0_hasForm_3 G P U V X O kd ln cnt this p0 p1 p2 p3 (L_X0_hasForm_3 G P U V X O kd ln cnt this p0 p1 p2 p3 n3) y3_5 = some r := hr
      unfold B_X0_hasForm_3 at hr
      refine lv_iload hx hb dX0_hasForm_3 (lv_at hl 5 rfl) ?_
      refine lv_aload_n hx hb dX0_hasForm_5 rfl (lv_at hl 0 rfl) ?_
      obtain ⟨i1, hi1⟩ := hW.o0 hk_this
      replace hr := nnS hr
      obtain ⟨a6, hn6, hr⟩ := hr
      have hk_a6 : kd a6 = 11 := hT.1 0 _ _ hn6
      refine va_get (D := (dC, dI)) (ci := 0) (v := .ref (ad a6)) (C := RX0) (T := TX0) (N := 6) hx hb hts inX0 hown hK hP i1 hi1 rfl 0 (by decide) (hts (.fieldLink RX0 14 "SpellTurner$Book" "words" "LSpellTurner$WordRow;") ic_92) (fun _ h9 => h9) (congrArg (fun o => some (va_re ad o)) hn6) dX0_hasForm_6 ?_
      obtain ⟨i2, hi2⟩ := hW.o10 hk_a6
      refine va_get (D := (dC, dI)) (ci := 10) (v := .int ((G 203) a6)) (C := RX10) (T := TX10) (N := 4) hx hb hts inX10 hown hK hP i2 hi2 rfl 3 (by decide) (hts (.fieldLink RX0 38 "SpellTurner$WordRow" "count" "I") ic_82) (fun _ h9 => h9) rfl dX0_hasForm_9 ?_
      refine lv_icmp_ge (tgt := 41) hx hb dX0_hasForm_12 (by decide) (fun c12 => ?_) (fun c12 => ?_)
      · replace hr := iteT c12 hr
        refine lv_iconst (v := 0) hx hb dX0_hasForm_41 (by decide +kernel) ?_
        exact K 42 ls _ ws H _ hr (by decide) dX0_hasForm_42 hW hT hP hD hS
      · replace hr := iteF c12 hr
        refine lv_aload_n hx hb dX0_hasForm_15 rfl (lv_at hl 0 rfl) ?_
        refine lv_iload_n hx hb dX0_hasForm_16 rfl (lv_at hl 1 rfl) ?_
        refine lv_iload hx hb dX0_hasForm_17 (lv_at hl 5 rfl) ?_
        replace hr := b1S hr
        obtain ⟨r19, hc19, hr⟩ := hr
        have hFc := fr_all hD hS hA
        obtain ⟨i3, hi3⟩ := hW.o0 hk_this
        refine va_calle (va_runV (As := [.int p0, .int y3_5]) (rest := []) ⟨hx, hb, hml, hown, hts⟩ (m_X0_formsAt l dC dI kk ad H.size ws G P U V X O kd ln cnt this p0 y3_5 hk_this hW hT r19 hc19) (cwV 2 hts gc_RX0_X0_formsAt_56 rfl rfl rfl (by decide +kernel) ⟨Nat.le_of_ble_eq_true rfl, Nat.le_of_ble_eq_true rfl⟩) ⟨fun a U g mk q => by obtain ⟨q0, q1, qP, qK, qD⟩ := q; exact ⟨q0, q1, qP, va_K.moved (u := U) (U := U.calling g mk a) (Vm.Alike.refl U.vm) qK, qD⟩, va_recv hK hP (ci := 0) (q0 := i3) rfl hi3, fun U hU hW => ⟨rfl, by rw [hU], by rw [hU]; exact hP, va_K.moved hW.alike hK, hD.weaken (fun _ _ _ _ => trivial)⟩⟩ rfl rfl hl.1 rfl (lv_room (Nat.le_of_ble_eq_true rfl)) dX0_hasForm_19 ⟨Nat.le_of_ble_eq_true rfl, Nat.le_of_ble_eq_true rfl⟩) hS (fun q _ h => hFc q h) hFc (fun qo19 w4 t H1 locs ht hvm hw hB hz1 hk1 hS => ?_)
        obtain ⟨hw0, hW, hT, hkr19⟩ := hw
        subst hw0
        obtain ⟨hP1, hK1, hD1⟩ := hB
        rw [ht] at hP1
        obtain ⟨hP, hD⟩ := jn_all (w1 := w4) hFc hP1 hD1
        replace hP : va_P (dC, dI) vwCl w4 H1 := hP
        replace hD : va_D A w4 := hD
        clear hFc hP1 hK1 hD1 hk1 hz1 ht hvm
        generalize H1 = H at hP hS ⊢
        refine lv_aload_n hx hb dX0_hasForm_22 rfl (lv_at hl 2 rfl) ?_
        refine lv_iload_n hx hb dX0_hasForm_23 rfl (lv_at hl 3 rfl) ?_
        refine lv_iload hx hb dX0_hasForm_24 (lv_at hl 4 rfl) ?_
        replace hr := b1S hr
        obtain ⟨r26z, hc26, hr⟩ := hr
        have hFc := fr_all hD hS hA
        obtain ⟨i5, hi5⟩ := hW.o10 hkr19
        refine va_calli (va_runV (As := [.ref (ad p1), .int p2, .int p3]) (rest := []) ⟨hx, hb, hml, hown, hts⟩ (m_X10_find l dC dI kk ad H.size w4 G P U V X O kd ln cnt r19 p1 p2 p3 hkr19 hk_p1 hW hT r26z hc26) (cwV 3 hts gc_RX0_X10_find_70 rfl rfl rfl (by decide +kernel) ⟨Nat.le_of_ble_eq_true rfl, Nat.le_of_ble_eq_true rfl⟩) ⟨fun a U g mk q => by obtain ⟨q0, q1, qP, qK, qD⟩ := q; exact ⟨q0, q1, qP, va_K.moved (u := U) (U := U.calling g mk a) (Vm.Alike.refl U.vm) qK, qD⟩, va_recv hK hP (ci := 10) (q0 := i5) rfl hi5, fun U hU hW => ⟨rfl, by rw [hU], by rw [hU]; exact hP, va_K.moved hW.alike hK, hD.weaken (fun _ _ _ _ => trivial)⟩⟩ rfl rfl hl.1 rfl (lv_room (Nat.le_of_ble_eq_true rfl)) dX0_hasForm_26 ⟨Nat.le_of_ble_eq_true rfl, Nat.le_of_ble_eq_true rfl⟩) hS (fun q _ h => hFc q h) hFc (fun r26 w6 t H1 locs ht hvm hw hB hz1 hk1 hS => ?_)
        obtain ⟨hw0, hW, hT⟩ := hw
        replace hw0 : r26 = r26z := hw0
        subst hw0
        obtain ⟨hP1, hK1, hD1⟩ := hB
        rw [ht] at hP1
        obtain ⟨hP, hD⟩ := jn_all (w1 := w6) hFc hP1 hD1
        replace hP : va_P (dC, dI) vwCl w6 H1 := hP
        replace hD : va_D A w6 := hD
        clear hFc hP1 hK1 hD1 hk1 hz1 ht hvm
        generalize H1 = H at hP hS ⊢
        refine lv_iconst (v := (-1)) hx hb dX0_hasForm_29 (by decide +kernel) ?_
        refine lv_icmp_eq (tgt := 35) hx hb dX0_hasForm_30 (by decide) (fun c30 => ?_) (fun c30 => ?_)
        · replace hr := iteT c30 hr
          refine lv_iinc (v := (y3_5 + 1)) (lv' := [(5, .int (y3_5 + 1)), (0, .ref (ad this)), (1, .int p0), (2, .ref (ad p1)), (3, .int p2), (4, .int p3)]) hx hb dX0_hasForm_35 hl (k := 5) rfl rfl (by decide) rfl (fun ls hl => ?_)
          refine lv_goto (tgt := 3) hx hb dX0_hasForm_38 (by decide) ?_
          exact ih3 (y3_5 + 1) w6 H _ ls hr hW hT hP hD hS (lv_sub hl [1, 2, 3, 4, 5, 0] rfl)
        · replace hr := iteF c30 hr
          refine lv_iconst (v := 1) hx hb dX0_hasForm_33 (by decide +kernel) ?_
          exact K 34 ls _ w6 H _ hr (by decide) dX0_hasForm_34 hW hT hP hD hS
  exact lp3 NN 0 ws H _ ls hr hW hT hP hD hS (lv_sub hl [1, 2, 3, 4, 5, 0] rfl)
set_option maxHeartbeats 4000000 in
set_option maxRecDepth 100000 in
theorem m_X0_hasForm (l : Launch) (dC : Nat → ClassId) (dI : Nat → Nat → Nat) (kk : Nat → ClassId) (ad : Nat → Nat) (sz : Nat) (ws : va_W) (G : Nat → Nat → Int32) (P : Nat → Nat → Option Nat) (U : Nat → Nat → Int64) (V : Nat → Nat → Nat → Int32) (X : Nat → Nat → Nat → Int64) (O : Nat → Nat → Nat → Option Nat) (kd : Nat → Nat) (ln : Nat → Nat) (cnt : Nat) (this : Nat) (p0 : Int32) (p1 : Nat) (p2 : Int32) (p3 : Int32) (hk_this : kd this = 1) (hk_p1 : kd p1 = 100) (hW : LW ws ad kk kd ln G P U V X O) (hT : TYP kd P O (V 0) cnt) (r : Int32) (hr : f_X0_hasForm G P U V X O kd ln cnt this p0 p1 p2 p3 = some r) : Met l yX0_hasForm vmX0_hasForm ({ frames := 4, cells := 0, slots := 0, locals := 109 } : Room) (va_Pc [.ref (ad this), .int p0, .ref (ad p1), .int p2, .int p3] (fun U => U.heap.size = sz ∧ va_P (dC, dI) vwCl ws U.heap ∧ va_K (dC, dI) vwCl (cT kk) U ∧ va_D (fun _ => True) ws)) (va_Qi (fun (rz : Int32) (w : va_W) => rz = r ∧ LW w ad kk kd ln G P U V X O ∧ TYP kd P O (V 0) cnt) (fun w t => va_P (dC, dI) vwCl w t.heap ∧ va_K (dC, dI) vwCl (cT kk) t ∧ va_D (va_A ws sz) w) (va_A ws sz)) 0 0 (va_A ws sz) := by
  refine Met.ofW (cc := cX0_hasForm) (maxL := 6) (ret := (some .boolean)) (by decide) rfl ?_
  intro p e s m args below meth c s₁ B hml hv
  obtain ⟨rfl, hsz, hP, hK, hD0⟩ := hv
  have hx := B.exec
  have hb := B.bytes
  have hrt := B.returns
  have hts := atoms_spec (ws := vmX0_hasForm) B.pre
  have hown : s.vm.findClass RX0 = some m.cls := findClass_of_methodNamed B.named
  subst hsz
  have hD := hD0.self (sz := s.heap.size)
  generalize hAe : va_A ws s.heap.size = A at hD ⊢
  have hA : ∀ q : Nat, s.heap.size ≤ q → A q := fun q h => by rw [← hAe]; exact Or.inr h
  have hS : va_S A s.heap s.heap [] := va_S.rf
  have hl := lv_entry ([.ref (ad this), .int p0, .ref (ad p1), .int p2, .int p3]) (n := 6) (Nat.le_of_ble_eq_true rfl)
  rw [lg_entry_eq]
  generalize (lg_sl ([.ref (ad this), .int p0, .ref (ad p1), .int p2, .int p3]) ++ List.replicate (6 - (lg_sl ([.ref (ad this), .int p0, .ref (ad p1), .int p2, .int p3])).length) Slot.unset).toArray = ls at hl ⊢
  exact bm_X0_hasForm this p0 p1 p2 p3 hk_this hk_p1 r hr hx hb hml hown hts hA hK hW hT hP hD hS hl (fun pc ls rz ws H locs he hz hd hW hT hP hD hS => by cases he; exact W.zret (v := r) hx hb hrt (z_nb hz) (fun t ht hW9 => ⟨⟨r, ws, rfl, ⟨rfl, hW, hT⟩, by rw [ht]; exact hP, va_K.moved hW9.alike hK, hD⟩, hS.F ht⟩) hS.2.2 hd)
set_option maxHeartbeats 4000000 in
set_option maxRecDepth 100000 in
theorem bm_X0_isSuch {p : Program} {l : Launch} {e : Env} {s : State} {m : MethodId} {args : Array Value} {below : List Frame} {meth : Method} {c : Code} {Q : State → Prop} {A : Nat → Prop} {dC : Nat → ClassId} {dI : Nat → Nat → Nat} {kk : Nat → ClassId} {ad : Nat → Nat} {ws : va_W} {G : Nat → Nat → Int32} {P : Nat → Nat → Option Nat} {U : Nat → Nat → Int64} {V : Nat → Nat → Nat → Int32} {X : Nat → Nat → Nat → Int64} {O : Nat → Nat → Nat → Option Nat} {kd : Nat → Nat} {ln : Nat → Nat} {cnt : Nat} {H : Heap} {locs : List Loc} {ls : Array Slot} (this : Nat) (p0 : Int32) (p1 : Int32) (p2 : Int32) (hk_this : kd this = 1) (r : Int32) (hr : f_X0_isSuch G P U V X O kd ln cnt this p0 p1 p2 = some r) (hx : p.tables.exec = Jvm.exec) (hb : c.code = cX0_isSuch) (hml : c.maxLocals = 5) (hown : s.vm.findClass RX0 = some m.cls) (hts : ∀ w ∈ vmX0_isSuch, w.before args s = true) (hA : ∀ q : Nat, s.heap.size ≤ q → A q) (hK : va_K (dC, dI) vwCl (cT kk) s) (hW : LW ws ad kk kd ln G P U V X O) (hT : TYP kd P O (V 0) cnt) (hP : va_P (dC, dI) vwCl ws H) (hD : va_D A ws) (hS : va_S A s.heap H locs) (hl : lv_has ls 5 [(0, .ref (ad this)), (1, .int p0), (2, .int p1), (3, .int p2)])
    (K : ∀ (pc : Nat) (ls : Array Slot) (rz : Int32) (ws : va_W) (H : Heap) (locs : List Loc), some rz = some r → is01 rz → decode cX0_isSuch pc = .ok (.ireturn, 1) → LW ws ad kk kd ln G P U V X O → TYP kd P O (V 0) cnt → va_P (dC, dI) vwCl ws H → va_D A ws → va_S A s.heap H locs → W p l e ({ frames := 4, cells := 0, slots := 0, locals := 109 } : Room) s m args below meth c H locs 0 0 Q (F0 m pc ls [.int rz])) : W p l e ({ frames := 4, cells := 0, slots := 0, locals := 109 } : Room) s m args below meth c H locs 0 0 Q (F0 m 0 ls []) := by
  unfold f_X0_isSuch at hr
  refine lv_aload_n hx hb dX0_isSuch_0 rfl (lv_at hl 0 rfl) ?_
  refine lv_iload_n hx hb dX0_isSuch_1 rfl (lv_at hl 1 rfl) ?_
  refine lv_iload_n hx hb dX0_isSuch_2 rfl (lv_at hl 2 rfl) ?_
  replace hr := b1S hr
  obtain ⟨r3, hc3, hr⟩ := hr
  have hFc := fr_all hD hS hA
  obtain ⟨i1, hi1⟩ := hW.o0 hk_this
  refine va_calle (va_runV (As := [.int p0, .int p1]) (rest := []) ⟨hx, hb, hml, hown, hts⟩ (m_X0_formsAt l dC dI kk ad H.size ws G P U V X O kd ln cnt this p0 p1 hk_this hW hT r3 hc3) (cwV 2 hts gc_RX0_X0_formsAt_56 rfl rfl rfl (by decide +kernel) ⟨Nat.le_of_ble_eq_true rfl, Nat.le_of_ble_eq_true rfl⟩) ⟨fun a U g mk q => by obtain ⟨q0, q1, qP, qK, qD⟩ := q; exact ⟨q0, q1, qP, va_K.moved (u := U) (U := U.calling g mk a) (Vm.Alike.refl U.vm) qK, qD⟩, va_recv hK hP (ci := 0) (q0 := i1) rfl hi1, fun U hU hW => ⟨rfl, by rw [hU], by rw [hU]; exact hP, va_K.moved hW.alike hK, hD.weaken (fun _ _ _ _ => trivial)⟩⟩ rfl rfl hl.1 rfl (lv_room (Nat.le_of_ble_eq_true rfl)) dX0_isSuch_3 ⟨Nat.le_of_ble_eq_true rfl, Nat.le_of_ble_eq_true rfl⟩) hS (fun q _ h => hFc q h) hFc (fun qo3 w2 t H1 locs ht hvm hw hB hz1 hk1 hS => ?_)
  obtain ⟨hw0, hW, hT, hkr3⟩ := hw
  subst hw0
  obtain ⟨hP1, hK1, hD1⟩ := hB
  rw [ht] at hP1
  obtain ⟨hP, hD⟩ := jn_all (w1 := w2) hFc hP1 hD1
  replace hP : va_P (dC, dI) vwCl w2 H1 := hP
  replace hD : va_D A w2 := hD
  clear hFc hP1 hK1 hD1 hk1 hz1 ht hvm
  generalize H1 = H at hP hS ⊢
  refine lv_astore (lv' := [(4, .ref (ad r3)), (0, .ref (ad this)), (1, .int p0), (2, .int p1), (3, .int p2)]) hx hb dX0_isSuch_6 hl (by decide) rfl (fun ls hl => ?_)
  refine lv_iload_n hx hb dX0_isSuch_8 rfl (lv_at hl 4 rfl) ?_
  have zk0 : (0 : Int32).toInt = 0 := by decide +kernel
  have zk1 : (1 : Int32).toInt = 1 := by decide +kernel
  rcases Classical.em (p2 = 0) with c9_0 | c9_0
  · replace hr := iteT c9_0 hr
    refine lv_lookup (off := 27) (tgt := 36) hx hb dX0_isSuch_9 (by decide) (by rw [c9_0]; decide +kernel) (by decide) ?_
    refine lv_aload hx hb dX0_isSuch_36 (lv_at hl 0 rfl) ?_
    obtain ⟨i3, hi3⟩ := hW.o10 hkr3
    refine va_get (D := (dC, dI)) (ci := 10) (v := .int ((G 203) r3)) (C := RX10) (T := TX10) (N := 4) hx hb hts inX10 hown hK hP i3 hi3 rfl 3 (by decide) (hts (.fieldLink RX0 38 "SpellTurner$WordRow" "count" "I") ic_82) (fun _ h9 => h9) rfl dX0_isSuch_38 ?_
    refine lv_iconst (v := 1) hx hb dX0_isSuch_41 (by decide +kernel) ?_
    replace hr := jnS hr
    obtain ⟨j50, hj50, hr⟩ := hr
    have Jj50 : ∀ (t50_0 : Int32) (ws : va_W) (H : Heap) (locs : List Loc) (ls : Array Slot), j50 t50_0 = some r → LW ws ad kk kd ln G P U V X O → TYP kd P O (V 0) cnt → va_P (dC, dI) vwCl ws H → va_D A ws → va_S A s.heap H locs → lv_has ls 5 [] → W p l e ({ frames := 4, cells := 0, slots := 0, locals := 109 } : Room) s m args below meth c H locs 0 0 Q (F0 m 50 ls [.int t50_0]) := by
      intro t50_0 ws H locs ls hr hW hT hP hD hS hl
      rw [hj50] at hr
      replace hr := iteS hr
      obtain ⟨hz50, hr⟩ := hr
      exact K 50 ls _ ws H _ hr hz50 dX0_isSuch_50 hW hT hP hD hS
    refine lv_icmp_le (tgt := 49) hx hb dX0_isSuch_42 (by decide) (fun c42 => ?_) (fun c42 => ?_)
    · replace hr := iteT c42 hr
      refine lv_iconst (v := 0) hx hb dX0_isSuch_49 (by decide +kernel) ?_
      exact Jj50 0 w2 H _ ls hr hW hT hP hD hS (lv_sub hl [] rfl)
    · replace hr := iteF c42 hr
      refine lv_iconst (v := 1) hx hb dX0_isSuch_45 (by decide +kernel) ?_
      refine lv_goto (tgt := 50) hx hb dX0_isSuch_46 (by decide) ?_
      exact Jj50 1 w2 H _ ls hr hW hT hP hD hS (lv_sub hl [] rfl)
  · replace hr := iteF c9_0 hr
    rcases Classical.em (p2 = 1) with c9_1 | c9_1
    · replace hr := iteT c9_1 hr
      refine lv_lookup (off := 42) (tgt := 51) hx hb dX0_isSuch_9 (by decide) (by rw [c9_1]; decide +kernel) (by decide) ?_
      refine lv_aload hx hb dX0_isSuch_51 (lv_at hl 0 rfl) ?_
      obtain ⟨i4, hi4⟩ := hW.o10 hkr3
      refine va_get (D := (dC, dI)) (ci := 10) (v := .int ((G 203) r3)) (C := RX10) (T := TX10) (N := 4) hx hb hts inX10 hown hK hP i4 hi4 rfl 3 (by decide) (hts (.fieldLink RX0 38 "SpellTurner$WordRow" "count" "I") ic_82) (fun _ h9 => h9) rfl dX0_isSuch_53 ?_
      replace hr := jnS hr
      obtain ⟨j64, hj64, hr⟩ := hr
      have Jj64 : ∀ (t64_0 : Int32) (ws : va_W) (H : Heap) (locs : List Loc) (ls : Array Slot), j64 t64_0 = some r → LW ws ad kk kd ln G P U V X O → TYP kd P O (V 0) cnt → va_P (dC, dI) vwCl ws H → va_D A ws → va_S A s.heap H locs → lv_has ls 5 [] → W p l e ({ frames := 4, cells := 0, slots := 0, locals := 109 } : Room) s m args below meth c H locs 0 0 Q (F0 m 64 ls [.int t64_0]) := by
        intro t64_0 ws H locs ls hr hW hT hP hD hS hl
        rw [hj64] at hr
        replace hr := iteS hr
        obtain ⟨hz64, hr⟩ := hr
        exact K 64 ls _ ws H _ hr hz64 dX0_isSuch_64 hW hT hP hD hS
      refine lv_if_ne (tgt := 63) hx hb dX0_isSuch_56 (by decide) (fun c56 => ?_) (fun c56 => ?_)
      · replace hr := iteF c56 hr
        refine lv_iconst (v := 0) hx hb dX0_isSuch_63 (by decide +kernel) ?_
        exact Jj64 0 w2 H _ ls hr hW hT hP hD hS (lv_sub hl [] rfl)
      · replace hr := iteT c56 hr
        refine lv_iconst (v := 1) hx hb dX0_isSuch_59 (by decide +kernel) ?_
        refine lv_goto (tgt := 64) hx hb dX0_isSuch_60 (by decide) ?_
        exact Jj64 1 w2 H _ ls hr hW hT hP hD hS (lv_sub hl [] rfl)
    · replace hr := iteF c9_1 hr
      refine lv_lookup (off := 56) (tgt := 65) hx hb dX0_isSuch_9 (by decide) (z_lk2 c9_0 c9_1) (by decide) ?_
      refine lv_aload hx hb dX0_isSuch_65 (lv_at hl 0 rfl) ?_
      obtain ⟨i5, hi5⟩ := hW.o10 hkr3
      refine va_get (D := (dC, dI)) (ci := 10) (v := .int ((G 203) r3)) (C := RX10) (T := TX10) (N := 4) hx hb hts inX10 hown hK hP i5 hi5 rfl 3 (by decide) (hts (.fieldLink RX0 38 "SpellTurner$WordRow" "count" "I") ic_82) (fun _ h9 => h9) rfl dX0_isSuch_67 ?_
      refine lv_iconst (v := 1) hx hb dX0_isSuch_70 (by decide +kernel) ?_
      replace hr := jnS hr
      obtain ⟨j113, hj113, hr⟩ := hr
      have Jj113 : ∀ (t113_0 : Int32) (ws : va_W) (H : Heap) (locs : List Loc) (ls : Array Slot), j113 t113_0 = some r → LW ws ad kk kd ln G P U V X O → TYP kd P O (V 0) cnt → va_P (dC, dI) vwCl ws H → va_D A ws → va_S A s.heap H locs → lv_has ls 5 [] → W p l e ({ frames := 4, cells := 0, slots := 0, locals := 109 } : Room) s m args below meth c H locs 0 0 Q (F0 m 113 ls [.int t113_0]) := by
        intro t113_0 ws H locs ls hr hW hT hP hD hS hl
        rw [hj113] at hr
        replace hr := iteS hr
        obtain ⟨hz113, hr⟩ := hr
        exact K 113 ls _ ws H _ hr hz113 dX0_isSuch_113 hW hT hP hD hS
      replace hr := jnS hr
      obtain ⟨j112, hj112, hr⟩ := hr
      have Jj112 : ∀ (ws : va_W) (H : Heap) (locs : List Loc) (ls : Array Slot), j112 () = some r → LW ws ad kk kd ln G P U V X O → TYP kd P O (V 0) cnt → va_P (dC, dI) vwCl ws H → va_D A ws → va_S A s.heap H locs → lv_has ls 5 [] → W p l e ({ frames := 4, cells := 0, slots := 0, locals := 109 } : Room) s m args below meth c H locs 0 0 Q (F0 m 112 ls []) := by
        intro ws H locs ls hr hW hT hP hD hS hl
        rw [hj112] at hr
        refine lv_iconst (v := 0) hx hb dX0_isSuch_112 (by decide +kernel) ?_
        exact Jj113 0 ws H _ ls hr hW hT hP hD hS (lv_sub hl [] rfl)
      refine lv_icmp_ne (tgt := 112) hx hb dX0_isSuch_71 (by decide) (fun c71 => ?_) (fun c71 => ?_)
      · replace hr := iteF c71 hr
        exact Jj112 w2 H _ ls hr hW hT hP hD hS (lv_sub hl [] rfl)
      · replace hr := iteT c71 hr
        refine lv_aload hx hb dX0_isSuch_74 (lv_at hl 0 rfl) ?_
        refine lv_aload_n hx hb dX0_isSuch_76 rfl (lv_at hl 1 rfl) ?_
        obtain ⟨i6, hi6⟩ := hW.o0 hk_this
        replace hr := nnS hr
        obtain ⟨a77, hn77, hr⟩ := hr
        have hk_a77 : kd a77 = 11 := hT.1 0 _ _ hn77
        refine va_get (D := (dC, dI)) (ci := 0) (v := .ref (ad a77)) (C := RX0) (T := TX0) (N := 6) hx hb hts inX0 hown hK hP i6 hi6 rfl 0 (by decide) (hts (.fieldLink RX0 14 "SpellTurner$Book" "words" "LSpellTurner$WordRow;") ic_92) (fun _ h9 => h9) (congrArg (fun o => some (va_re ad o)) hn77) dX0_isSuch_77 ?_
        obtain ⟨i7, hi7⟩ := hW.o10 hk_a77
        replace hr := nnS hr
        obtain ⟨a80, hn80, hr⟩ := hr
        have hk_a80 : kd a80 = 100 := hT.1 201 _ _ hn80
        refine va_get (D := (dC, dI)) (ci := 10) (v := .ref (ad a80)) (C := RX10) (T := TX10) (N := 4) hx hb hts inX10 hown hK hP i7 hi7 rfl 1 (by decide) (hts (.fieldLink RX0 42 "SpellTurner$WordRow" "letters" "[B") ic_83) (fun _ h9 => h9) (congrArg (fun o => some (va_re ad o)) hn80) dX0_isSuch_80 ?_
        refine lv_iload_n hx hb dX0_isSuch_83 rfl (lv_at hl 3 rfl) ?_
        refine lv_aload_n hx hb dX0_isSuch_84 rfl (lv_at hl 1 rfl) ?_
        obtain ⟨i8, hi8⟩ := hW.o0 hk_this
        replace hr := nnS hr
        obtain ⟨a85, hn85, hr⟩ := hr
        have hk_a85 : kd a85 = 11 := hT.1 0 _ _ hn85
        refine va_get (D := (dC, dI)) (ci := 0) (v := .ref (ad a85)) (C := RX0) (T := TX0) (N := 6) hx hb hts inX0 hown hK hP i8 hi8 rfl 0 (by decide) (hts (.fieldLink RX0 14 "SpellTurner$Book" "words" "LSpellTurner$WordRow;") ic_92) (fun _ h9 => h9) (congrArg (fun o => some (va_re ad o)) hn85) dX0_isSuch_85 ?_
        obtain ⟨i9, hi9⟩ := hW.o10 hk_a85
        refine va_get (D := (dC, dI)) (ci := 10) (v := .int ((G 200) a85)) (C := RX10) (T := TX10) (N := 4) hx hb hts inX10 hown hK hP i9 hi9 rfl 0 (by decide) (hts (.fieldLink RX0 46 "SpellTurner$WordRow" "width" "I") ic_84) (fun _ h9 => h9) rfl dX0_isSuch_88 ?_
        refine lv_imul hx hb dX0_isSuch_91 ?_
        refine lv_aload_n hx hb dX0_isSuch_92 rfl (lv_at hl 1 rfl) ?_
        obtain ⟨i10, hi10⟩ := hW.o0 hk_this
        replace hr := nnS hr
        obtain ⟨a93, hn93, hr⟩ := hr
        have hk_a93 : kd a93 = 11 := hT.1 0 _ _ hn93
        refine va_get (D := (dC, dI)) (ci := 0) (v := .ref (ad a93)) (C := RX0) (T := TX0) (N := 6) hx hb hts inX0 hown hK hP i10 hi10 rfl 0 (by decide) (hts (.fieldLink RX0 14 "SpellTurner$Book" "words" "LSpellTurner$WordRow;") ic_92) (fun _ h9 => h9) (congrArg (fun o => some (va_re ad o)) hn93) dX0_isSuch_93 ?_
        obtain ⟨i11, hi11⟩ := hW.o10 hk_a93
        replace hr := nnS hr
        obtain ⟨a96, hn96, hr⟩ := hr
        have hk_a96 : kd a96 = 101 := hT.1 202 _ _ hn96
        refine va_get (D := (dC, dI)) (ci := 10) (v := .ref (ad a96)) (C := RX10) (T := TX10) (N := 4) hx hb hts inX10 hown hK hP i11 hi11 rfl 2 (by decide) (hts (.fieldLink RX0 49 "SpellTurner$WordRow" "lengths" "[I") ic_85) (fun _ h9 => h9) (congrArg (fun o => some (va_re ad o)) hn96) dX0_isSuch_96 ?_
        refine lv_iload_n hx hb dX0_isSuch_99 rfl (lv_at hl 3 rfl) ?_
        obtain ⟨i12, hi12⟩ := hW.v1 hk_a96
        replace hr := iteS hr
        obtain ⟨hi100, hr⟩ := hr
        refine va_iald (f := ((V 1) a96)) hx hb hK hP i12 1 hi12 rfl (inbV hi100) dX0_isSuch_100 ?_
        replace hr := b1S hr
        obtain ⟨r101z, hc101, hr⟩ := hr
        have hFc := fr_all hD hS hA
        obtain ⟨i13, hi13⟩ := hW.o10 hkr3
        refine va_calli (va_runV (As := [.ref (ad a80), .int (p1 * ((G 200) a85)), .int (((V 1) a96) (Int32.toNatClampNeg p1))]) (rest := []) ⟨hx, hb, hml, hown, hts⟩ (m_X10_find l dC dI kk ad H.size w2 G P U V X O kd ln cnt r3 a80 (p1 * ((G 200) a85)) (((V 1) a96) (Int32.toNatClampNeg p1)) hkr3 hk_a80 hW hT r101z hc101) (cwV 3 hts gc_RX0_X10_find_70 rfl rfl rfl (by decide +kernel) ⟨Nat.le_of_ble_eq_true rfl, Nat.le_of_ble_eq_true rfl⟩) ⟨fun a U g mk q => by obtain ⟨q0, q1, qP, qK, qD⟩ := q; exact ⟨q0, q1, qP, va_K.moved (u := U) (U := U.calling g mk a) (Vm.Alike.refl U.vm) qK, qD⟩, va_recv hK hP (ci := 10) (q0 := i13) rfl hi13, fun U hU hW => ⟨rfl, by rw [hU], by rw [hU]; exact hP, va_K.moved hW.alike hK, hD.weaken (fun _ _ _ _ => trivial)⟩⟩ rfl rfl hl.1 rfl (lv_room (Nat.le_of_ble_eq_true rfl)) dX0_isSuch_101 ⟨Nat.le_of_ble_eq_true rfl, Nat.le_of_ble_eq_true rfl⟩) hS (fun q _ h => hFc q h) hFc (fun r101 w14 t H1 locs ht hvm hw hB hz1 hk1 hS => ?_)
        obtain ⟨hw0, hW, hT⟩ := hw
        replace hw0 : r101 = r101z := hw0
        subst hw0
        obtain ⟨hP1, hK1, hD1⟩ := hB
        rw [ht] at hP1
        obtain ⟨hP, hD⟩ := jn_all (w1 := w14) hFc hP1 hD1
        replace hP : va_P (dC, dI) vwCl w14 H1 := hP
        replace hD : va_D A w14 := hD
        clear hFc hP1 hK1 hD1 hk1 hz1 ht hvm
        generalize H1 = H at hP hS ⊢
        refine lv_iconst (v := (-1)) hx hb dX0_isSuch_104 (by decide +kernel) ?_
        refine lv_icmp_eq (tgt := 112) hx hb dX0_isSuch_105 (by decide) (fun c105 => ?_) (fun c105 => ?_)
        · replace hr := iteT c105 hr
          exact Jj112 w14 H _ ls hr hW hT hP hD hS (lv_sub hl [] rfl)
        · replace hr := iteF c105 hr
          refine lv_iconst (v := 1) hx hb dX0_isSuch_108 (by decide +kernel) ?_
          refine lv_goto (tgt := 113) hx hb dX0_isSuch_109 (by decide) ?_
          exact Jj113 1 w14 H _ ls hr hW hT hP hD hS (lv_sub hl [] rfl)
set_option maxHeartbeats 4000000 in
set_option maxRecDepth 100000 in
theorem m_X0_isSuch (l : Launch) (dC : Nat → ClassId) (dI : Nat → Nat → Nat) (kk : Nat → ClassId) (ad : Nat → Nat) (sz : Nat) (ws : va_W) (G : Nat → Nat → Int32) (P : Nat → Nat → Option Nat) (U : Nat → Nat → Int64) (V : Nat → Nat → Nat → Int32) (X : Nat → Nat → Nat → Int64) (O : Nat → Nat → Nat → Option Nat) (kd : Nat → Nat) (ln : Nat → Nat) (cnt : Nat) (this : Nat) (p0 : Int32) (p1 : Int32) (p2 : Int32) (hk_this : kd this = 1) (hW : LW ws ad kk kd ln G P U V X O) (hT : TYP kd P O (V 0) cnt) (r : Int32) (hr : f_X0_isSuch G P U V X O kd ln cnt this p0 p1 p2 = some r) : Met l yX0_isSuch vmX0_isSuch ({ frames := 4, cells := 0, slots := 0, locals := 109 } : Room) (va_Pc [.ref (ad this), .int p0, .int p1, .int p2] (fun U => U.heap.size = sz ∧ va_P (dC, dI) vwCl ws U.heap ∧ va_K (dC, dI) vwCl (cT kk) U ∧ va_D (fun _ => True) ws)) (va_Qi (fun (rz : Int32) (w : va_W) => rz = r ∧ LW w ad kk kd ln G P U V X O ∧ TYP kd P O (V 0) cnt) (fun w t => va_P (dC, dI) vwCl w t.heap ∧ va_K (dC, dI) vwCl (cT kk) t ∧ va_D (va_A ws sz) w) (va_A ws sz)) 0 0 (va_A ws sz) := by
  refine Met.ofW (cc := cX0_isSuch) (maxL := 5) (ret := (some .boolean)) (by decide) rfl ?_
  intro p e s m args below meth c s₁ B hml hv
  obtain ⟨rfl, hsz, hP, hK, hD0⟩ := hv
  have hx := B.exec
  have hb := B.bytes
  have hrt := B.returns
  have hts := atoms_spec (ws := vmX0_isSuch) B.pre
  have hown : s.vm.findClass RX0 = some m.cls := findClass_of_methodNamed B.named
  subst hsz
  have hD := hD0.self (sz := s.heap.size)
  generalize hAe : va_A ws s.heap.size = A at hD ⊢
  have hA : ∀ q : Nat, s.heap.size ≤ q → A q := fun q h => by rw [← hAe]; exact Or.inr h
  have hS : va_S A s.heap s.heap [] := va_S.rf
  have hl := lv_entry ([.ref (ad this), .int p0, .int p1, .int p2]) (n := 5) (Nat.le_of_ble_eq_true rfl)
  rw [lg_entry_eq]
  generalize (lg_sl ([.ref (ad this), .int p0, .int p1, .int p2]) ++ List.replicate (5 - (lg_sl ([.ref (ad this), .int p0, .int p1, .int p2])).length) Slot.unset).toArray = ls at hl ⊢
  exact bm_X0_isSuch this p0 p1 p2 hk_this r hr hx hb hml hown hts hA hK hW hT hP hD hS hl (fun pc ls rz ws H locs he hz hd hW hT hP hD hS => by cases he; exact W.zret (v := r) hx hb hrt (z_nb hz) (fun t ht hW9 => ⟨⟨r, ws, rfl, ⟨rfl, hW, hT⟩, by rw [ht]; exact hP, va_K.moved hW9.alike hK, hD⟩, hS.F ht⟩) hS.2.2 hd)
set_option maxHeartbeats 4000000 in
set_option maxRecDepth 100000 in
theorem bm_X0_usesLaw {p : Program} {l : Launch} {e : Env} {s : State} {m : MethodId} {args : Array Value} {below : List Frame} {meth : Method} {c : Code} {Q : State → Prop} {A : Nat → Prop} {dC : Nat → ClassId} {dI : Nat → Nat → Nat} {kk : Nat → ClassId} {ad : Nat → Nat} {ws : va_W} {G : Nat → Nat → Int32} {P : Nat → Nat → Option Nat} {U : Nat → Nat → Int64} {V : Nat → Nat → Nat → Int32} {X : Nat → Nat → Nat → Int64} {O : Nat → Nat → Nat → Option Nat} {kd : Nat → Nat} {ln : Nat → Nat} {cnt : Nat} {H : Heap} {locs : List Loc} {ls : Array Slot} (this : Nat) (p0 : Int32) (p1 : Int32) (p2 : Int32) (hk_this : kd this = 1) (r : Int32) (hr : f_X0_usesLaw G P U V X O kd ln cnt this p0 p1 p2 = some r) (hx : p.tables.exec = Jvm.exec) (hb : c.code = cX0_usesLaw) (hml : c.maxLocals = 4) (hown : s.vm.findClass RX0 = some m.cls) (hts : ∀ w ∈ vmX0_usesLaw, w.before args s = true) (hA : ∀ q : Nat, s.heap.size ≤ q → A q) (hK : va_K (dC, dI) vwCl (cT kk) s) (hW : LW ws ad kk kd ln G P U V X O) (hT : TYP kd P O (V 0) cnt) (hP : va_P (dC, dI) vwCl ws H) (hD : va_D A ws) (hS : va_S A s.heap H locs) (hl : lv_has ls 4 [(0, .ref (ad this)), (1, .int p0), (2, .int p1), (3, .int p2)])
    (K : ∀ (pc : Nat) (ls : Array Slot) (rz : Int32) (ws : va_W) (H : Heap) (locs : List Loc), some rz = some r → is01 rz → decode cX0_usesLaw pc = .ok (.ireturn, 1) → LW ws ad kk kd ln G P U V X O → TYP kd P O (V 0) cnt → va_P (dC, dI) vwCl ws H → va_D A ws → va_S A s.heap H locs → W p l e ({ frames := 2, cells := 0, slots := 0, locals := 60 } : Room) s m args below meth c H locs 0 0 Q (F0 m pc ls [.int rz])) : W p l e ({ frames := 2, cells := 0, slots := 0, locals := 60 } : Room) s m args below meth c H locs 0 0 Q (F0 m 0 ls []) := by
  unfold f_X0_usesLaw at hr
  refine lv_aload_n hx hb dX0_usesLaw_0 rfl (lv_at hl 0 rfl) ?_
  obtain ⟨i1, hi1⟩ := hW.o0 hk_this
  replace hr := nnS hr
  obtain ⟨a1, hn1, hr⟩ := hr
  have hk_a1 : kd a1 = 201 := hT.1 2 _ _ hn1
  refine va_get (D := (dC, dI)) (ci := 0) (v := .ref (ad a1)) (C := RX0) (T := TX0) (N := 6) hx hb hts inX0 hown hK hP i1 hi1 rfl 2 (by decide) (hts (.fieldLink RX0 24 "SpellTurner$Book" "lawsUsed" "[J") ic_95) (fun _ h9 => h9) (congrArg (fun o => some (va_re ad o)) hn1) dX0_usesLaw_1 ?_
  refine lv_iload_n hx hb dX0_usesLaw_4 rfl (lv_at hl 1 rfl) ?_
  refine lv_bipush (v := 100) hx hb dX0_usesLaw_5 (by decide +kernel) ?_
  refine lv_imul hx hb dX0_usesLaw_7 ?_
  refine lv_iload_n hx hb dX0_usesLaw_8 rfl (lv_at hl 2 rfl) ?_
  refine lv_iadd hx hb dX0_usesLaw_9 ?_
  obtain ⟨i2, hi2⟩ := hW.x1 hk_a1
  replace hr := iteS hr
  obtain ⟨hi10, hr⟩ := hr
  refine va_lald (f := ((X 1) a1)) hx hb hK hP i2 3 hi2 rfl (inbV hi10) dX0_usesLaw_10 ?_
  refine lv_iload_n hx hb dX0_usesLaw_11 rfl (lv_at hl 3 rfl) ?_
  refine lv_lshr (v := ((((X 1) a1) (Int32.toNatClampNeg ((p0 * 100) + p1))) >>> ((Int32.toInt64 p2) &&& 63))) hx hb dX0_usesLaw_12 rfl ?_
  refine lv_lconst (v := 1) hx hb dX0_usesLaw_13 (by decide +kernel) ?_
  refine lv_land hx hb dX0_usesLaw_14 ?_
  refine lv_lconst (v := 1) hx hb dX0_usesLaw_15 (by decide +kernel) ?_
  refine W.lcmp hx hb dX0_usesLaw_16 ?_
  replace hr := jnS hr
  obtain ⟨j25, hj25, hr⟩ := hr
  have Jj25 : ∀ (t25_0 : Int32) (ws : va_W) (H : Heap) (locs : List Loc) (ls : Array Slot), j25 t25_0 = some r → LW ws ad kk kd ln G P U V X O → TYP kd P O (V 0) cnt → va_P (dC, dI) vwCl ws H → va_D A ws → va_S A s.heap H locs → lv_has ls 4 [] → W p l e ({ frames := 2, cells := 0, slots := 0, locals := 60 } : Room) s m args below meth c H locs 0 0 Q (F0 m 25 ls [.int t25_0]) := by
    intro t25_0 ws H locs ls hr hW hT hP hD hS hl
    rw [hj25] at hr
    replace hr := iteS hr
    obtain ⟨hz25, hr⟩ := hr
    exact K 25 ls _ ws H _ hr hz25 dX0_usesLaw_25 hW hT hP hD hS
  refine lv_if_ne (tgt := 24) hx hb dX0_usesLaw_17 (by decide) (fun c17 => ?_) (fun c17 => ?_)
  · replace hr := iteF c17 hr
    refine lv_iconst (v := 0) hx hb dX0_usesLaw_24 (by decide +kernel) ?_
    exact Jj25 0 ws H _ ls hr hW hT hP hD hS (lv_sub hl [] rfl)
  · replace hr := iteT c17 hr
    refine lv_iconst (v := 1) hx hb dX0_usesLaw_20 (by decide +kernel) ?_
    refine lv_goto (tgt := 25) hx hb dX0_usesLaw_21 (by decide) ?_
    exact Jj25 1 ws H _ ls hr hW hT hP hD hS (lv_sub hl [] rfl)
set_option maxHeartbeats 4000000 in
set_option maxRecDepth 100000 in
theorem m_X0_usesLaw (l : Launch) (dC : Nat → ClassId) (dI : Nat → Nat → Nat) (kk : Nat → ClassId) (ad : Nat → Nat) (sz : Nat) (ws : va_W) (G : Nat → Nat → Int32) (P : Nat → Nat → Option Nat) (U : Nat → Nat → Int64) (V : Nat → Nat → Nat → Int32) (X : Nat → Nat → Nat → Int64) (O : Nat → Nat → Nat → Option Nat) (kd : Nat → Nat) (ln : Nat → Nat) (cnt : Nat) (this : Nat) (p0 : Int32) (p1 : Int32) (p2 : Int32) (hk_this : kd this = 1) (hW : LW ws ad kk kd ln G P U V X O) (hT : TYP kd P O (V 0) cnt) (r : Int32) (hr : f_X0_usesLaw G P U V X O kd ln cnt this p0 p1 p2 = some r) : Met l yX0_usesLaw vmX0_usesLaw ({ frames := 2, cells := 0, slots := 0, locals := 60 } : Room) (va_Pc [.ref (ad this), .int p0, .int p1, .int p2] (fun U => U.heap.size = sz ∧ va_P (dC, dI) vwCl ws U.heap ∧ va_K (dC, dI) vwCl (cT kk) U ∧ va_D (fun _ => True) ws)) (va_Qi (fun (rz : Int32) (w : va_W) => rz = r ∧ LW w ad kk kd ln G P U V X O ∧ TYP kd P O (V 0) cnt) (fun w t => va_P (dC, dI) vwCl w t.heap ∧ va_K (dC, dI) vwCl (cT kk) t ∧ va_D (va_A ws sz) w) (va_A ws sz)) 0 0 (va_A ws sz) := by
  refine Met.ofW (cc := cX0_usesLaw) (maxL := 4) (ret := (some .boolean)) (by decide) rfl ?_
  intro p e s m args below meth c s₁ B hml hv
  obtain ⟨rfl, hsz, hP, hK, hD0⟩ := hv
  have hx := B.exec
  have hb := B.bytes
  have hrt := B.returns
  have hts := atoms_spec (ws := vmX0_usesLaw) B.pre
  have hown : s.vm.findClass RX0 = some m.cls := findClass_of_methodNamed B.named
  subst hsz
  have hD := hD0.self (sz := s.heap.size)
  generalize hAe : va_A ws s.heap.size = A at hD ⊢
  have hA : ∀ q : Nat, s.heap.size ≤ q → A q := fun q h => by rw [← hAe]; exact Or.inr h
  have hS : va_S A s.heap s.heap [] := va_S.rf
  have hl := lv_entry ([.ref (ad this), .int p0, .int p1, .int p2]) (n := 4) (Nat.le_of_ble_eq_true rfl)
  rw [lg_entry_eq]
  generalize (lg_sl ([.ref (ad this), .int p0, .int p1, .int p2]) ++ List.replicate (4 - (lg_sl ([.ref (ad this), .int p0, .int p1, .int p2])).length) Slot.unset).toArray = ls at hl ⊢
  exact bm_X0_usesLaw this p0 p1 p2 hk_this r hr hx hb hml hown hts hA hK hW hT hP hD hS hl (fun pc ls rz ws H locs he hz hd hW hT hP hD hS => by cases he; exact W.zret (v := r) hx hb hrt (z_nb hz) (fun t ht hW9 => ⟨⟨r, ws, rfl, ⟨rfl, hW, hT⟩, by rw [ht]; exact hP, va_K.moved hW9.alike hK, hD⟩, hS.F ht⟩) hS.2.2 hd)
set_option maxHeartbeats 4000000 in
set_option maxRecDepth 100000 in
theorem bm_X11_isStage {p : Program} {l : Launch} {e : Env} {s : State} {m : MethodId} {args : Array Value} {below : List Frame} {meth : Method} {c : Code} {Q : State → Prop} {A : Nat → Prop} {dC : Nat → ClassId} {dI : Nat → Nat → Nat} {kk : Nat → ClassId} {ad : Nat → Nat} {ws : va_W} {G : Nat → Nat → Int32} {P : Nat → Nat → Option Nat} {U : Nat → Nat → Int64} {V : Nat → Nat → Nat → Int32} {X : Nat → Nat → Nat → Int64} {O : Nat → Nat → Nat → Option Nat} {kd : Nat → Nat} {ln : Nat → Nat} {cnt : Nat} {H : Heap} {locs : List Loc} {ls : Array Slot} (this : Nat) (p0 : Int32) (hk_this : kd this = 12) (r : Int32) (hr : f_X11_isStage G P U V X O kd ln cnt this p0 = some r) (hx : p.tables.exec = Jvm.exec) (hb : c.code = cX11_isStage) (hml : c.maxLocals = 2) (hown : s.vm.findClass RX11 = some m.cls) (hts : ∀ w ∈ vmX11_isStage, w.before args s = true) (hA : ∀ q : Nat, s.heap.size ≤ q → A q) (hK : va_K (dC, dI) vwCl (cT kk) s) (hW : LW ws ad kk kd ln G P U V X O) (hT : TYP kd P O (V 0) cnt) (hP : va_P (dC, dI) vwCl ws H) (hD : va_D A ws) (hS : va_S A s.heap H locs) (hl : lv_has ls 2 [(0, .ref (ad this)), (1, .int p0)])
    (K : ∀ (pc : Nat) (ls : Array Slot) (rz : Int32) (ws : va_W) (H : Heap) (locs : List Loc), some rz = some r → is01 rz → decode cX11_isStage pc = .ok (.ireturn, 1) → LW ws ad kk kd ln G P U V X O → TYP kd P O (V 0) cnt → va_P (dC, dI) vwCl ws H → va_D A ws → va_S A s.heap H locs → W p l e ({ frames := 2, cells := 0, slots := 0, locals := 60 } : Room) s m args below meth c H locs 0 0 Q (F0 m pc ls [.int rz])) : W p l e ({ frames := 2, cells := 0, slots := 0, locals := 60 } : Room) s m args below meth c H locs 0 0 Q (F0 m 0 ls []) := by
  unfold f_X11_isStage at hr
  refine lv_iload_n hx hb dX11_isStage_0 rfl (lv_at hl 1 rfl) ?_
  replace hr := jnS hr
  obtain ⟨j17, hj17, hr⟩ := hr
  have Jj17 : ∀ (t17_0 : Int32) (ws : va_W) (H : Heap) (locs : List Loc) (ls : Array Slot), j17 t17_0 = some r → LW ws ad kk kd ln G P U V X O → TYP kd P O (V 0) cnt → va_P (dC, dI) vwCl ws H → va_D A ws → va_S A s.heap H locs → lv_has ls 2 [] → W p l e ({ frames := 2, cells := 0, slots := 0, locals := 60 } : Room) s m args below meth c H locs 0 0 Q (F0 m 17 ls [.int t17_0]) := by
    intro t17_0 ws H locs ls hr hW hT hP hD hS hl
    rw [hj17] at hr
    replace hr := iteS hr
    obtain ⟨hz17, hr⟩ := hr
    exact K 17 ls _ ws H _ hr hz17 dX11_isStage_17 hW hT hP hD hS
  replace hr := jnS hr
  obtain ⟨j16, hj16, hr⟩ := hr
  have Jj16 : ∀ (ws : va_W) (H : Heap) (locs : List Loc) (ls : Array Slot), j16 () = some r → LW ws ad kk kd ln G P U V X O → TYP kd P O (V 0) cnt → va_P (dC, dI) vwCl ws H → va_D A ws → va_S A s.heap H locs → lv_has ls 2 [] → W p l e ({ frames := 2, cells := 0, slots := 0, locals := 60 } : Room) s m args below meth c H locs 0 0 Q (F0 m 16 ls []) := by
    intro ws H locs ls hr hW hT hP hD hS hl
    rw [hj16] at hr
    refine lv_iconst (v := 0) hx hb dX11_isStage_16 (by decide +kernel) ?_
    exact Jj17 0 ws H _ ls hr hW hT hP hD hS (lv_sub hl [] rfl)
  refine lv_if_lt (tgt := 16) hx hb dX11_isStage_1 (by decide) (fun c1 => ?_) (fun c1 => ?_)
  · replace hr := iteT c1 hr
    exact Jj16 ws H _ ls hr hW hT hP hD hS (lv_sub hl [] rfl)
  · replace hr := iteF c1 hr
    refine lv_iload_n hx hb dX11_isStage_4 rfl (lv_at hl 1 rfl) ?_
    refine lv_aload_n hx hb dX11_isStage_5 rfl (lv_at hl 0 rfl) ?_
    obtain ⟨i1, hi1⟩ := hW.o11 hk_this
    refine va_get (D := (dC, dI)) (ci := 11) (v := .int ((G 222) this)) (C := RX11) (T := TX11) (N := 17) hx hb hts inX11 hown hK hP i1 hi1 rfl 2 (by decide) (hts (.fieldLink RX11 22 "SpellTurner" "reformCount" "I") ic_55) (fun _ h9 => h9) rfl dX11_isStage_6 ?_
    refine lv_icmp_gt (tgt := 16) hx hb dX11_isStage_9 (by decide) (fun c9 => ?_) (fun c9 => ?_)
    · replace hr := iteT c9 hr
      exact Jj16 ws H _ ls hr hW hT hP hD hS (lv_sub hl [] rfl)
    · replace hr := iteF c9 hr
      refine lv_iconst (v := 1) hx hb dX11_isStage_12 (by decide +kernel) ?_
      refine lv_goto (tgt := 17) hx hb dX11_isStage_13 (by decide) ?_
      exact Jj17 1 ws H _ ls hr hW hT hP hD hS (lv_sub hl [] rfl)
set_option maxHeartbeats 4000000 in
set_option maxRecDepth 100000 in
theorem m_X11_isStage (l : Launch) (dC : Nat → ClassId) (dI : Nat → Nat → Nat) (kk : Nat → ClassId) (ad : Nat → Nat) (sz : Nat) (ws : va_W) (G : Nat → Nat → Int32) (P : Nat → Nat → Option Nat) (U : Nat → Nat → Int64) (V : Nat → Nat → Nat → Int32) (X : Nat → Nat → Nat → Int64) (O : Nat → Nat → Nat → Option Nat) (kd : Nat → Nat) (ln : Nat → Nat) (cnt : Nat) (this : Nat) (p0 : Int32) (hk_this : kd this = 12) (hW : LW ws ad kk kd ln G P U V X O) (hT : TYP kd P O (V 0) cnt) (r : Int32) (hr : f_X11_isStage G P U V X O kd ln cnt this p0 = some r) : Met l yX11_isStage vmX11_isStage ({ frames := 2, cells := 0, slots := 0, locals := 60 } : Room) (va_Pc [.ref (ad this), .int p0] (fun U => U.heap.size = sz ∧ va_P (dC, dI) vwCl ws U.heap ∧ va_K (dC, dI) vwCl (cT kk) U ∧ va_D (fun _ => True) ws)) (va_Qi (fun (rz : Int32) (w : va_W) => rz = r ∧ LW w ad kk kd ln G P U V X O ∧ TYP kd P O (V 0) cnt) (fun w t => va_P (dC, dI) vwCl w t.heap ∧ va_K (dC, dI) vwCl (cT kk) t ∧ va_D (va_A ws sz) w) (va_A ws sz)) 0 0 (va_A ws sz) := by
  refine Met.ofW (cc := cX11_isStage) (maxL := 2) (ret := (some .boolean)) (by decide) rfl ?_
  intro p e s m args below meth c s₁ B hml hv
  obtain ⟨rfl, hsz, hP, hK, hD0⟩ := hv
  have hx := B.exec
  have hb := B.bytes
  have hrt := B.returns
  have hts := atoms_spec (ws := vmX11_isStage) B.pre
  have hown : s.vm.findClass RX11 = some m.cls := findClass_of_methodNamed B.named
  subst hsz
  have hD := hD0.self (sz := s.heap.size)
  generalize hAe : va_A ws s.heap.size = A at hD ⊢
  have hA : ∀ q : Nat, s.heap.size ≤ q → A q := fun q h => by rw [← hAe]; exact Or.inr h
  have hS : va_S A s.heap s.heap [] := va_S.rf
  have hl := lv_entry ([.ref (ad this), .int p0]) (n := 2) (Nat.le_of_ble_eq_true rfl)
  rw [lg_entry_eq]
  generalize (lg_sl ([.ref (ad this), .int p0]) ++ List.replicate (2 - (lg_sl ([.ref (ad this), .int p0])).length) Slot.unset).toArray = ls at hl ⊢
  exact bm_X11_isStage this p0 hk_this r hr hx hb hml hown hts hA hK hW hT hP hD hS hl (fun pc ls rz ws H locs he hz hd hW hT hP hD hS => by cases he; exact W.zret (v := r) hx hb hrt (z_nb hz) (fun t ht hW9 => ⟨⟨r, ws, rfl, ⟨rfl, hW, hT⟩, by rw [ht]; exact hP, va_K.moved hW9.alike hK, hD⟩, hS.F ht⟩) hS.2.2 hd)
set_option maxHeartbeats 4000000 in
set_option maxRecDepth 100000 in
theorem bm_X11_areStages {p : Program} {l : Launch} {e : Env} {s : State} {m : MethodId} {args : Array Value} {below : List Frame} {meth : Method} {c : Code} {Q : State → Prop} {A : Nat → Prop} {dC : Nat → ClassId} {dI : Nat → Nat → Nat} {kk : Nat → ClassId} {ad : Nat → Nat} {ws : va_W} {G : Nat → Nat → Int32} {P : Nat → Nat → Option Nat} {U : Nat → Nat → Int64} {V : Nat → Nat → Nat → Int32} {X : Nat → Nat → Nat → Int64} {O : Nat → Nat → Nat → Option Nat} {kd : Nat → Nat} {ln : Nat → Nat} {cnt : Nat} {H : Heap} {locs : List Loc} {ls : Array Slot} (this : Nat) (p0 : Int32) (p1 : Int32) (hk_this : kd this = 12) (r : Int32) (hr : f_X11_areStages G P U V X O kd ln cnt this p0 p1 = some r) (hx : p.tables.exec = Jvm.exec) (hb : c.code = cX11_areStages) (hml : c.maxLocals = 3) (hown : s.vm.findClass RX11 = some m.cls) (hts : ∀ w ∈ vmX11_areStages, w.before args s = true) (hA : ∀ q : Nat, s.heap.size ≤ q → A q) (hK : va_K (dC, dI) vwCl (cT kk) s) (hW : LW ws ad kk kd ln G P U V X O) (hT : TYP kd P O (V 0) cnt) (hP : va_P (dC, dI) vwCl ws H) (hD : va_D A ws) (hS : va_S A s.heap H locs) (hl : lv_has ls 3 [(0, .ref (ad this)), (1, .int p0), (2, .int p1)])
    (K : ∀ (pc : Nat) (ls : Array Slot) (rz : Int32) (ws : va_W) (H : Heap) (locs : List Loc), some rz = some r → is01 rz → decode cX11_areStages pc = .ok (.ireturn, 1) → LW ws ad kk kd ln G P U V X O → TYP kd P O (V 0) cnt → va_P (dC, dI) vwCl ws H → va_D A ws → va_S A s.heap H locs → W p l e ({ frames := 3, cells := 0, slots := 0, locals := 81 } : Room) s m args below meth c H locs 0 0 Q (F0 m pc ls [.int rz])) : W p l e ({ frames := 3, cells := 0, slots := 0, locals := 81 } : Room) s m args below meth c H locs 0 0 Q (F0 m 0 ls []) := by
  unfold f_X11_areStages at hr
  refine lv_aload_n hx hb dX11_areStages_0 rfl (lv_at hl 0 rfl) ?_
  refine lv_iload_n hx hb dX11_areStages_1 rfl (lv_at hl 1 rfl) ?_
  replace hr := b1S hr
  obtain ⟨r2z, hc2, hr⟩ := hr
  have hFc := fr_all hD hS hA
  obtain ⟨i1, hi1⟩ := hW.o11 hk_this
  refine va_calli (va_runV (As := [.int p0]) (rest := []) ⟨hx, hb, hml, hown, hts⟩ (m_X11_isStage l dC dI kk ad H.size ws G P U V X O kd ln cnt this p0 hk_this hW hT r2z hc2) (cwV 1 hts gc_RX11_X11_isStage_208 rfl rfl rfl (by decide +kernel) ⟨Nat.le_of_ble_eq_true rfl, Nat.le_of_ble_eq_true rfl⟩) ⟨fun a U g mk q => by obtain ⟨q0, q1, qP, qK, qD⟩ := q; exact ⟨q0, q1, qP, va_K.moved (u := U) (U := U.calling g mk a) (Vm.Alike.refl U.vm) qK, qD⟩, va_recv hK hP (ci := 11) (q0 := i1) rfl hi1, fun U hU hW => ⟨rfl, by rw [hU], by rw [hU]; exact hP, va_K.moved hW.alike hK, hD.weaken (fun _ _ _ _ => trivial)⟩⟩ rfl rfl hl.1 rfl (lv_room (Nat.le_of_ble_eq_true rfl)) dX11_areStages_2 ⟨Nat.le_of_ble_eq_true rfl, Nat.le_of_ble_eq_true rfl⟩) hS (fun q _ h => hFc q h) hFc (fun r2 w2 t H1 locs ht hvm hw hB hz1 hk1 hS => ?_)
  obtain ⟨hw0, hW, hT⟩ := hw
  replace hw0 : r2 = r2z := hw0
  subst hw0
  obtain ⟨hP1, hK1, hD1⟩ := hB
  rw [ht] at hP1
  obtain ⟨hP, hD⟩ := jn_all (w1 := w2) hFc hP1 hD1
  replace hP : va_P (dC, dI) vwCl w2 H1 := hP
  replace hD : va_D A w2 := hD
  clear hFc hP1 hK1 hD1 hk1 hz1 ht hvm
  generalize H1 = H at hP hS ⊢
  replace hr := jnS hr
  obtain ⟨j26, hj26, hr⟩ := hr
  have Jj26 : ∀ (t26_0 : Int32) (ws : va_W) (H : Heap) (locs : List Loc) (ls : Array Slot), j26 t26_0 = some r → LW ws ad kk kd ln G P U V X O → TYP kd P O (V 0) cnt → va_P (dC, dI) vwCl ws H → va_D A ws → va_S A s.heap H locs → lv_has ls 3 [] → W p l e ({ frames := 3, cells := 0, slots := 0, locals := 81 } : Room) s m args below meth c H locs 0 0 Q (F0 m 26 ls [.int t26_0]) := by
    intro t26_0 ws H locs ls hr hW hT hP hD hS hl
    rw [hj26] at hr
    replace hr := iteS hr
    obtain ⟨hz26, hr⟩ := hr
    exact K 26 ls _ ws H _ hr hz26 dX11_areStages_26 hW hT hP hD hS
  replace hr := jnS hr
  obtain ⟨j25, hj25, hr⟩ := hr
  have Jj25 : ∀ (ws : va_W) (H : Heap) (locs : List Loc) (ls : Array Slot), j25 () = some r → LW ws ad kk kd ln G P U V X O → TYP kd P O (V 0) cnt → va_P (dC, dI) vwCl ws H → va_D A ws → va_S A s.heap H locs → lv_has ls 3 [] → W p l e ({ frames := 3, cells := 0, slots := 0, locals := 81 } : Room) s m args below meth c H locs 0 0 Q (F0 m 25 ls []) := by
    intro ws H locs ls hr hW hT hP hD hS hl
    rw [hj25] at hr
    refine lv_iconst (v := 0) hx hb dX11_areStages_25 (by decide +kernel) ?_
    exact Jj26 0 ws H _ ls hr hW hT hP hD hS (lv_sub hl [] rfl)
  refine lv_if_eq (tgt := 25) hx hb dX11_areStages_5 (by decide) (fun c5 => ?_) (fun c5 => ?_)
  · replace hr := iteT c5 hr
    exact Jj25 w2 H _ ls hr hW hT hP hD hS (lv_sub hl [] rfl)
  · replace hr := iteF c5 hr
    refine lv_aload_n hx hb dX11_areStages_8 rfl (lv_at hl 0 rfl) ?_
    refine lv_iload_n hx hb dX11_areStages_9 rfl (lv_at hl 2 rfl) ?_
    replace hr := b1S hr
    obtain ⟨r10z, hc10, hr⟩ := hr
    have hFc := fr_all hD hS hA
    obtain ⟨i3, hi3⟩ := hW.o11 hk_this
    refine va_calli (va_runV (As := [.int p1]) (rest := []) ⟨hx, hb, hml, hown, hts⟩ (m_X11_isStage l dC dI kk ad H.size w2 G P U V X O kd ln cnt this p1 hk_this hW hT r10z hc10) (cwV 1 hts gc_RX11_X11_isStage_208 rfl rfl rfl (by decide +kernel) ⟨Nat.le_of_ble_eq_true rfl, Nat.le_of_ble_eq_true rfl⟩) ⟨fun a U g mk q => by obtain ⟨q0, q1, qP, qK, qD⟩ := q; exact ⟨q0, q1, qP, va_K.moved (u := U) (U := U.calling g mk a) (Vm.Alike.refl U.vm) qK, qD⟩, va_recv hK hP (ci := 11) (q0 := i3) rfl hi3, fun U hU hW => ⟨rfl, by rw [hU], by rw [hU]; exact hP, va_K.moved hW.alike hK, hD.weaken (fun _ _ _ _ => trivial)⟩⟩ rfl rfl hl.1 rfl (lv_room (Nat.le_of_ble_eq_true rfl)) dX11_areStages_10 ⟨Nat.le_of_ble_eq_true rfl, Nat.le_of_ble_eq_true rfl⟩) hS (fun q _ h => hFc q h) hFc (fun r10 w4 t H1 locs ht hvm hw hB hz1 hk1 hS => ?_)
    obtain ⟨hw0, hW, hT⟩ := hw
    replace hw0 : r10 = r10z := hw0
    subst hw0
    obtain ⟨hP1, hK1, hD1⟩ := hB
    rw [ht] at hP1
    obtain ⟨hP, hD⟩ := jn_all (w1 := w4) hFc hP1 hD1
    replace hP : va_P (dC, dI) vwCl w4 H1 := hP
    replace hD : va_D A w4 := hD
    clear hFc hP1 hK1 hD1 hk1 hz1 ht hvm
    generalize H1 = H at hP hS ⊢
    refine lv_if_eq (tgt := 25) hx hb dX11_areStages_13 (by decide) (fun c13 => ?_) (fun c13 => ?_)
    · replace hr := iteT c13 hr
      exact Jj25 w4 H _ ls hr hW hT hP hD hS (lv_sub hl [] rfl)
    · replace hr := iteF c13 hr
      refine lv_iload_n hx hb dX11_areStages_16 rfl (lv_at hl 1 rfl) ?_
      refine lv_iload_n hx hb dX11_areStages_17 rfl (lv_at hl 2 rfl) ?_
      refine lv_icmp_gt (tgt := 25) hx hb dX11_areStages_18 (by decide) (fun c18 => ?_) (fun c18 => ?_)
      · replace hr := iteT c18 hr
        exact Jj25 w4 H _ ls hr hW hT hP hD hS (lv_sub hl [] rfl)
      · replace hr := iteF c18 hr
        refine lv_iconst (v := 1) hx hb dX11_areStages_21 (by decide +kernel) ?_
        refine lv_goto (tgt := 26) hx hb dX11_areStages_22 (by decide) ?_
        exact Jj26 1 w4 H _ ls hr hW hT hP hD hS (lv_sub hl [] rfl)
set_option maxHeartbeats 4000000 in
set_option maxRecDepth 100000 in
theorem m_X11_areStages (l : Launch) (dC : Nat → ClassId) (dI : Nat → Nat → Nat) (kk : Nat → ClassId) (ad : Nat → Nat) (sz : Nat) (ws : va_W) (G : Nat → Nat → Int32) (P : Nat → Nat → Option Nat) (U : Nat → Nat → Int64) (V : Nat → Nat → Nat → Int32) (X : Nat → Nat → Nat → Int64) (O : Nat → Nat → Nat → Option Nat) (kd : Nat → Nat) (ln : Nat → Nat) (cnt : Nat) (this : Nat) (p0 : Int32) (p1 : Int32) (hk_this : kd this = 12) (hW : LW ws ad kk kd ln G P U V X O) (hT : TYP kd P O (V 0) cnt) (r : Int32) (hr : f_X11_areStages G P U V X O kd ln cnt this p0 p1 = some r) : Met l yX11_areStages vmX11_areStages ({ frames := 3, cells := 0, slots := 0, locals := 81 } : Room) (va_Pc [.ref (ad this), .int p0, .int p1] (fun U => U.heap.size = sz ∧ va_P (dC, dI) vwCl ws U.heap ∧ va_K (dC, dI) vwCl (cT kk) U ∧ va_D (fun _ => True) ws)) (va_Qi (fun (rz : Int32) (w : va_W) => rz = r ∧ LW w ad kk kd ln G P U V X O ∧ TYP kd P O (V 0) cnt) (fun w t => va_P (dC, dI) vwCl w t.heap ∧ va_K (dC, dI) vwCl (cT kk) t ∧ va_D (va_A ws sz) w) (va_A ws sz)) 0 0 (va_A ws sz) := by
  refine Met.ofW (cc := cX11_areStages) (maxL := 3) (ret := (some .boolean)) (by decide) rfl ?_
  intro p e s m args below meth c s₁ B hml hv
  obtain ⟨rfl, hsz, hP, hK, hD0⟩ := hv
  have hx := B.exec
  have hb := B.bytes
  have hrt := B.returns
  have hts := atoms_spec (ws := vmX11_areStages) B.pre
  have hown : s.vm.findClass RX11 = some m.cls := findClass_of_methodNamed B.named
  subst hsz
  have hD := hD0.self (sz := s.heap.size)
  generalize hAe : va_A ws s.heap.size = A at hD ⊢
  have hA : ∀ q : Nat, s.heap.size ≤ q → A q := fun q h => by rw [← hAe]; exact Or.inr h
  have hS : va_S A s.heap s.heap [] := va_S.rf
  have hl := lv_entry ([.ref (ad this), .int p0, .int p1]) (n := 3) (Nat.le_of_ble_eq_true rfl)
  rw [lg_entry_eq]
  generalize (lg_sl ([.ref (ad this), .int p0, .int p1]) ++ List.replicate (3 - (lg_sl ([.ref (ad this), .int p0, .int p1])).length) Slot.unset).toArray = ls at hl ⊢
  exact bm_X11_areStages this p0 p1 hk_this r hr hx hb hml hown hts hA hK hW hT hP hD hS hl (fun pc ls rz ws H locs he hz hd hW hT hP hD hS => by cases he; exact W.zret (v := r) hx hb hrt (z_nb hz) (fun t ht hW9 => ⟨⟨r, ws, rfl, ⟨rfl, hW, hT⟩, by rw [ht]; exact hP, va_K.moved hW9.alike hK, hD⟩, hS.F ht⟩) hS.2.2 hd)
set_option maxHeartbeats 4000000 in
set_option maxRecDepth 100000 in
theorem bm_X2_charge {p : Program} {l : Launch} {e : Env} {s : State} {m : MethodId} {args : Array Value} {below : List Frame} {meth : Method} {c : Code} {Q : State → Prop} {A : Nat → Prop} {dC : Nat → ClassId} {dI : Nat → Nat → Nat} {kk : Nat → ClassId} {ad : Nat → Nat} {ws : va_W} {G : Nat → Nat → Int32} {P : Nat → Nat → Option Nat} {U : Nat → Nat → Int64} {V : Nat → Nat → Nat → Int32} {X : Nat → Nat → Nat → Int64} {O : Nat → Nat → Nat → Option Nat} {kd : Nat → Nat} {ln : Nat → Nat} {cnt : Nat} {H : Heap} {locs : List Loc} {ls : Array Slot} (this : Nat) (p0 : Int32) (p1 : Int32) (hk_this : kd this = 3) (c_V7 : Nat → Nat → Int32) (hr : f_X2_charge G P U V X O kd ln cnt this p0 p1 = some c_V7) (hx : p.tables.exec = Jvm.exec) (hb : c.code = cX2_charge) (hml : c.maxLocals = 3) (hown : s.vm.findClass RX2 = some m.cls) (hts : ∀ w ∈ vmX2_charge, w.before args s = true) (hA : ∀ q : Nat, s.heap.size ≤ q → A q) (hK : va_K (dC, dI) vwCl (cT kk) s) (hW : LW ws ad kk kd ln G P U V X O) (hT : TYP kd P O (V 0) cnt) (hP : va_P (dC, dI) vwCl ws H) (hD : va_D A ws) (hS : va_S A s.heap H locs) (hl : lv_has ls 3 [(0, .ref (ad this)), (1, .int p0), (2, .int p1)])
    (K : ∀ (pc : Nat) (ls : Array Slot) (c_V7z : Nat → Nat → Int32) (ws : va_W) (H : Heap) (locs : List Loc), some c_V7z = some c_V7 → decode cX2_charge pc = .ok (.return_, 1) → LW ws ad kk kd ln G P U (va_up V 7 c_V7z) X O → TYP kd P O (V 0) cnt → va_P (dC, dI) vwCl ws H → va_D A ws → va_S A s.heap H locs → W p l e ({ frames := 2, cells := 0, slots := 0, locals := 60 } : Room) s m args below meth c H locs 0 0 Q (F0 m pc ls [])) : W p l e ({ frames := 2, cells := 0, slots := 0, locals := 60 } : Room) s m args below meth c H locs 0 0 Q (F0 m 0 ls []) := by
  unfold f_X2_charge at hr
  refine lv_iload_n hx hb dX2_charge_0 rfl (lv_at hl 1 rfl) ?_
  refine lv_aload_n hx hb dX2_charge_1 rfl (lv_at hl 0 rfl) ?_
  obtain ⟨i1, hi1⟩ := hW.o2 hk_this
  refine va_get (D := (dC, dI)) (ci := 2) (v := .int ((G 44) this)) (C := RX2) (T := TX2) (N := 6) hx hb hts inX2 hown hK hP i1 hi1 rfl 4 (by decide) (hts (.fieldLink RX2 25 "SpellTurner$Mixture" "lines" "I") ic_102) (fun _ h9 => h9) rfl dX2_charge_2 ?_
  replace hr := jnS hr
  obtain ⟨j31, hj31, hr⟩ := hr
  have Jj31 : ∀ (c31_V7 : Nat → Nat → Int32) (ws : va_W) (H : Heap) (locs : List Loc) (ls : Array Slot), j31 c31_V7 = some c_V7 → LW ws ad kk kd ln G P U (va_up V 7 c31_V7) X O → TYP kd P O (V 0) cnt → va_P (dC, dI) vwCl ws H → va_D A ws → va_S A s.heap H locs → lv_has ls 3 [] → W p l e ({ frames := 2, cells := 0, slots := 0, locals := 60 } : Room) s m args below meth c H locs 0 0 Q (F0 m 31 ls []) := by
    intro c31_V7 ws H locs ls hr hW hT hP hD hS hl
    rw [hj31] at hr
    exact K 31 ls _ ws H _ hr dX2_charge_31 hW hT hP hD hS
  refine lv_icmp_ge (tgt := 31) hx hb dX2_charge_5 (by decide) (fun c5 => ?_) (fun c5 => ?_)
  · replace hr := iteT c5 hr
    have eV : V = (va_up V 7 (V 7)) := by
      funext k
      by_cases h7 : k = 7
      · subst h7; rfl
      · simp only [va_up, h7, if_false]
    rw [eV] at hW
    clear eV
    exact Jj31 (V 7) ws H _ ls hr hW hT hP hD hS (lv_sub hl [] rfl)
  · replace hr := iteF c5 hr
    refine lv_iload_n hx hb dX2_charge_8 rfl (lv_at hl 2 rfl) ?_
    refine lv_aload_n hx hb dX2_charge_9 rfl (lv_at hl 0 rfl) ?_
    obtain ⟨i2, hi2⟩ := hW.o2 hk_this
    refine va_get (D := (dC, dI)) (ci := 2) (v := .int ((G 45) this)) (C := RX2) (T := TX2) (N := 6) hx hb hts inX2 hown hK hP i2 hi2 rfl 5 (by decide) (hts (.fieldLink RX2 28 "SpellTurner$Mixture" "stages" "I") ic_103) (fun _ h9 => h9) rfl dX2_charge_10 ?_
    refine lv_icmp_ge (tgt := 31) hx hb dX2_charge_13 (by decide) (fun c13 => ?_) (fun c13 => ?_)
    · replace hr := iteT c13 hr
      have eV : V = (va_up V 7 (V 7)) := by
        funext k
        by_cases h7 : k = 7
        · subst h7; rfl
        · simp only [va_up, h7, if_false]
      rw [eV] at hW
      clear eV
      exact Jj31 (V 7) ws H _ ls hr hW hT hP hD hS (lv_sub hl [] rfl)
    · replace hr := iteF c13 hr
      refine lv_aload_n hx hb dX2_charge_16 rfl (lv_at hl 0 rfl) ?_
      obtain ⟨i3, hi3⟩ := hW.o2 hk_this
      replace hr := nnS hr
      obtain ⟨a17, hn17, hr⟩ := hr
      have hk_a17 : kd a17 = 107 := hT.1 40 _ _ hn17
      refine va_get (D := (dC, dI)) (ci := 2) (v := .ref (ad a17)) (C := RX2) (T := TX2) (N := 6) hx hb hts inX2 hown hK hP i3 hi3 rfl 0 (by decide) (hts (.fieldLink RX2 9 "SpellTurner$Mixture" "costs" "[I") ic_104) (fun _ h9 => h9) (congrArg (fun o => some (va_re ad o)) hn17) dX2_charge_17 ?_
      refine lv_iload_n hx hb dX2_charge_20 rfl (lv_at hl 1 rfl) ?_
      refine lv_bipush (v := 7) hx hb dX2_charge_21 (by decide +kernel) ?_
      refine lv_imul hx hb dX2_charge_23 ?_
      refine lv_iload_n hx hb dX2_charge_24 rfl (lv_at hl 2 rfl) ?_
      refine lv_iadd hx hb dX2_charge_25 ?_
      refine lv_dup2_11 hx hb dX2_charge_26 rfl rfl ?_
      obtain ⟨i4, hi4⟩ := hW.v7 hk_a17
      replace hr := iteS hr
      obtain ⟨hi27, hr⟩ := hr
      refine va_iald (f := ((V 7) a17)) hx hb hK hP i4 1 hi4 rfl (inbV hi27) dX2_charge_27 ?_
      refine lv_iconst (v := 1) hx hb dX2_charge_28 (by decide +kernel) ?_
      refine lv_iadd hx hb dX2_charge_29 ?_
      obtain ⟨i5, hi5⟩ := hW.v7 hk_a17
      replace hr := iteS hr
      obtain ⟨hi30, hr⟩ := hr
      refine va_iast (f := ((V 7) a17)) hx hb hK hP hD hS i5 1 hi5 rfl (inbV hi30) dX2_charge_30 (fun H locs hP2 hD2 hS => ?_)
      obtain ⟨m30, w6, em30, hP, hD, hW⟩ : ∃ (z : Nat → Nat → Int32) (w : va_W), z = (va_up (V 7) a17 (upd ((V 7) a17) (Int32.toNatClampNeg ((p0 * 7) + p1)) ((((V 7) a17) (Int32.toNatClampNeg ((p0 * 7) + p1))) + 1))) ∧ va_P (dC, dI) vwCl w H ∧ va_D A w ∧ LW w ad kk kd ln G P U (va_up V 7 z) X O := ⟨_, _, rfl, hP2, hD2, hW.setV hD hi5 (by rw [hk_a17]; decide) 7 (upd ((V 7) a17) (Int32.toNatClampNeg ((p0 * 7) + p1)) ((((V 7) a17) (Int32.toNatClampNeg ((p0 * 7) + p1))) + 1)) (by rw [hk_a17]; rfl)⟩
      replace hr := vlS hr m30 em30
      clear em30
      exact Jj31 m30 w6 H _ ls hr hW hT hP hD hS (lv_sub hl [] rfl)
set_option maxHeartbeats 4000000 in
set_option maxRecDepth 100000 in
theorem m_X2_charge (l : Launch) (dC : Nat → ClassId) (dI : Nat → Nat → Nat) (kk : Nat → ClassId) (ad : Nat → Nat) (sz : Nat) (ws : va_W) (G : Nat → Nat → Int32) (P : Nat → Nat → Option Nat) (U : Nat → Nat → Int64) (V : Nat → Nat → Nat → Int32) (X : Nat → Nat → Nat → Int64) (O : Nat → Nat → Nat → Option Nat) (kd : Nat → Nat) (ln : Nat → Nat) (cnt : Nat) (this : Nat) (p0 : Int32) (p1 : Int32) (hk_this : kd this = 3) (hW : LW ws ad kk kd ln G P U V X O) (hT : TYP kd P O (V 0) cnt) (c_V7 : Nat → Nat → Int32) (hr : f_X2_charge G P U V X O kd ln cnt this p0 p1 = some c_V7) : Met l yX2_charge vmX2_charge ({ frames := 2, cells := 0, slots := 0, locals := 60 } : Room) (va_Pc [.ref (ad this), .int p0, .int p1] (fun U => U.heap.size = sz ∧ va_P (dC, dI) vwCl ws U.heap ∧ va_K (dC, dI) vwCl (cT kk) U ∧ va_D (fun _ => True) ws)) (va_Qv (fun w => LW w ad kk kd ln G P U (va_up V 7 c_V7) X O ∧ TYP kd P O (V 0) cnt) (fun w t => va_P (dC, dI) vwCl w t.heap ∧ va_K (dC, dI) vwCl (cT kk) t ∧ va_D (va_A ws sz) w) (va_A ws sz)) 0 0 (va_A ws sz) := by
  refine Met.ofW (cc := cX2_charge) (maxL := 3) (ret := none) (by decide) rfl ?_
  intro p e s m args below meth c s₁ B hml hv
  obtain ⟨rfl, hsz, hP, hK, hD0⟩ := hv
  have hx := B.exec
  have hb := B.bytes
  have hrt := B.returns
  have hts := atoms_spec (ws := vmX2_charge) B.pre
  have hown : s.vm.findClass RX2 = some m.cls := findClass_of_methodNamed B.named
  subst hsz
  have hD := hD0.self (sz := s.heap.size)
  generalize hAe : va_A ws s.heap.size = A at hD ⊢
  have hA : ∀ q : Nat, s.heap.size ≤ q → A q := fun q h => by rw [← hAe]; exact Or.inr h
  have hS : va_S A s.heap s.heap [] := va_S.rf
  have hl := lv_entry ([.ref (ad this), .int p0, .int p1]) (n := 3) (Nat.le_of_ble_eq_true rfl)
  rw [lg_entry_eq]
  generalize (lg_sl ([.ref (ad this), .int p0, .int p1]) ++ List.replicate (3 - (lg_sl ([.ref (ad this), .int p0, .int p1])).length) Slot.unset).toArray = ls at hl ⊢
  exact bm_X2_charge this p0 p1 hk_this c_V7 hr hx hb hml hown hts hA hK hW hT hP hD hS hl (fun pc ls c_V7z ws H locs he hd hW hT hP hD hS => by cases he; exact W.vret hx hb hrt (fun t ht hW9 => ⟨⟨ws, rfl, ⟨hW, hT⟩, by rw [ht]; exact hP, va_K.moved hW9.alike hK, hD⟩, hS.F ht⟩) hS.2.2 hd)
set_option maxHeartbeats 4000000 in
set_option maxRecDepth 100000 in
theorem bm_X11_chargeWord {p : Program} {l : Launch} {e : Env} {s : State} {m : MethodId} {args : Array Value} {below : List Frame} {meth : Method} {c : Code} {Q : State → Prop} {A : Nat → Prop} {dC : Nat → ClassId} {dI : Nat → Nat → Nat} {kk : Nat → ClassId} {ad : Nat → Nat} {ws : va_W} {G : Nat → Nat → Int32} {P : Nat → Nat → Option Nat} {U : Nat → Nat → Int64} {V : Nat → Nat → Nat → Int32} {X : Nat → Nat → Nat → Int64} {O : Nat → Nat → Nat → Option Nat} {kd : Nat → Nat} {ln : Nat → Nat} {cnt : Nat} {H : Heap} {locs : List Loc} {ls : Array Slot} (this : Nat) (hk_this : kd this = 12) (c_V7 : Nat → Nat → Int32) (hr : f_X11_chargeWord G P U V X O kd ln cnt this = some c_V7) (hx : p.tables.exec = Jvm.exec) (hb : c.code = cX11_chargeWord) (hml : c.maxLocals = 2) (hown : s.vm.findClass RX11 = some m.cls) (hts : ∀ w ∈ vmX11_chargeWord, w.before args s = true) (hA : ∀ q : Nat, s.heap.size ≤ q → A q) (hK : va_K (dC, dI) vwCl (cT kk) s) (hW : LW ws ad kk kd ln G P U V X O) (hT : TYP kd P O (V 0) cnt) (hP : va_P (dC, dI) vwCl ws H) (hD : va_D A ws) (hS : va_S A s.heap H locs) (hl : lv_has ls 2 [(0, .ref (ad this))])
    (K : ∀ (pc : Nat) (ls : Array Slot) (c_V7z : Nat → Nat → Int32) (ws : va_W) (H : Heap) (locs : List Loc), some c_V7z = some c_V7 → decode cX11_chargeWord pc = .ok (.return_, 1) → LW ws ad kk kd ln G P U (va_up V 7 c_V7z) X O → TYP kd P O (V 0) cnt → va_P (dC, dI) vwCl ws H → va_D A ws → va_S A s.heap H locs → W p l e ({ frames := 5, cells := 0, slots := 0, locals := 134 } : Room) s m args below meth c H locs 0 0 Q (F0 m pc ls [])) : W p l e ({ frames := 5, cells := 0, slots := 0, locals := 134 } : Room) s m args below meth c H locs 0 0 Q (F0 m 0 ls []) := by
  unfold f_X11_chargeWord at hr
  refine lv_iconst (v := 0) hx hb dX11_chargeWord_0 (by decide +kernel) ?_
  refine lv_istore_n (lv' := [(1, .int 0), (0, .ref (ad this))]) hx hb dX11_chargeWord_1 rfl hl (by decide) rfl (fun ls hl => ?_)
  have lp2 : ∀ (n2 : Nat), ∀ (y2_1 : Int32) (d2_V7 : Nat → Nat → Int32) (ws : va_W) (H : Heap) (locs : List Loc) (ls : Array Slot), L_X11_chargeWord_2 G P U V X O kd ln cnt this n2 y2_1 d2_V7 = some c_V7 → LW ws ad kk kd ln G P U (va_up V 7 d2_V7) X O → TYP kd P O (V 0) cnt → va_P (dC, dI) vwCl ws H → va_D A ws → va_S A s.heap H locs → lv_has ls 2 [(0, .ref (ad this)), (1, .int y2_1)] → W p l e ({ frames := 5, cells := 0, slots := 0, locals := 134 } : Room) s m args below meth c H locs 0 0 Q (F0 m 2 ls []) := by
    intro n2
    induction n2 with
    | zero => intro y2_1 d2_V7 ws H locs ls hr hW hT hP hD hS hl; exact nomatch (show none = some c_V7 from hr)
    | succ n2 ih2 =>
      intro y2_1 d2_V7 ws H locs ls hr hW hT hP hD hS hl
      replace hr : B_X11_chargeWord_2 G P U V X O kd ln cnt this (L_X11_chargeWord_2 G P U V X O kd ln cnt this n2) y2_1 d2_V7 = some c_V7 := hr
      unfold B_X11_chargeWord_2 at hr
      refine lv_iload_n hx hb dX11_chargeWord_2 rfl (lv_at hl 1 rfl) ?_
      refine lv_aload_n hx hb dX11_chargeWord_3 rfl (lv_at hl 0 rfl) ?_
      obtain ⟨i1, hi1⟩ := hW.o11 hk_this
      refine va_get (D := (dC, dI)) (ci := 11) (v := .int ((G 222) this)) (C := RX11) (T := TX11) (N := 17) hx hb hts inX11 hown hK hP i1 hi1 rfl 2 (by decide) (hts (.fieldLink RX11 22 "SpellTurner" "reformCount" "I") ic_55) (fun _ h9 => h9) rfl dX11_chargeWord_4 ?_
      refine lv_icmp_gt (tgt := 63) hx hb dX11_chargeWord_7 (by decide) (fun c7 => ?_) (fun c7 => ?_)
      · replace hr := iteT c7 hr
        exact K 63 ls _ ws H _ hr dX11_chargeWord_63 hW hT hP hD hS
      · replace hr := iteF c7 hr
        refine lv_aload_n hx hb dX11_chargeWord_10 rfl (lv_at hl 0 rfl) ?_
        obtain ⟨i2, hi2⟩ := hW.o11 hk_this
        replace hr := nnS hr
        obtain ⟨a11, hn11, hr⟩ := hr
        have hk_a11 : kd a11 = 1 := hT.1 229 _ _ hn11
        refine va_get (D := (dC, dI)) (ci := 11) (v := .ref (ad a11)) (C := RX11) (T := TX11) (N := 17) hx hb hts inX11 hown hK hP i2 hi2 rfl 9 (by decide) (hts (.fieldLink RX11 67 "SpellTurner" "book" "LSpellTurner$Book;") ic_106) (fun _ h9 => h9) (congrArg (fun o => some (va_re ad o)) hn11) dX11_chargeWord_11 ?_
        refine lv_iload_n hx hb dX11_chargeWord_14 rfl (lv_at hl 1 rfl) ?_
        refine lv_aload_n hx hb dX11_chargeWord_15 rfl (lv_at hl 0 rfl) ?_
        obtain ⟨i3, hi3⟩ := hW.o11 hk_this
        replace hr := nnS hr
        obtain ⟨a16, hn16, hr⟩ := hr
        have hk_a16 : kd a16 = 8 := hT.1 220 _ _ hn16
        refine va_get (D := (dC, dI)) (ci := 11) (v := .ref (ad a16)) (C := RX11) (T := TX11) (N := 17) hx hb hts inX11 hown hK hP i3 hi3 rfl 0 (by decide) (hts (.fieldLink RX11 12 "SpellTurner" "tape" "LSpellTurner$Tape;") ic_48) (fun _ h9 => h9) (congrArg (fun o => some (va_re ad o)) hn16) dX11_chargeWord_16 ?_
        obtain ⟨i4, hi4⟩ := hW.o7 hk_a16
        replace hr := nnS hr
        obtain ⟨a19, hn19, hr⟩ := hr
        have hk_a19 : kd a19 = 100 := hT.1 140 _ _ hn19
        refine va_get (D := (dC, dI)) (ci := 7) (v := .ref (ad a19)) (C := RX7) (T := TX7) (N := 2) hx hb hts inX7 hown hK hP i4 hi4 rfl 0 (by decide) (hts (.fieldLink RX11 120 "SpellTurner$Tape" "bytes" "[B") ic_107) (fun _ h9 => h9) (congrArg (fun o => some (va_re ad o)) hn19) dX11_chargeWord_19 ?_
        refine lv_aload_n hx hb dX11_chargeWord_22 rfl (lv_at hl 0 rfl) ?_
        obtain ⟨i5, hi5⟩ := hW.o11 hk_this
        replace hr := nnS hr
        obtain ⟨a23, hn23, hr⟩ := hr
        have hk_a23 : kd a23 = 9 := hT.1 234 _ _ hn23
        refine va_get (D := (dC, dI)) (ci := 11) (v := .ref (ad a23)) (C := RX11) (T := TX11) (N := 17) hx hb hts inX11 hown hK hP i5 hi5 rfl 14 (by decide) (hts (.fieldLink RX11 87 "SpellTurner" "textWords" "LSpellTurner$TextWords;") ic_108) (fun _ h9 => h9) (congrArg (fun o => some (va_re ad o)) hn23) dX11_chargeWord_23 ?_
        obtain ⟨i6, hi6⟩ := hW.o8 hk_a23
        refine va_get (D := (dC, dI)) (ci := 8) (v := .int ((G 160) a23)) (C := RX8) (T := TX8) (N := 8) hx hb hts inX8 hown hK hP i6 hi6 rfl 0 (by decide) (hts (.fieldLink RX11 262 "SpellTurner$TextWords" "start" "I") ic_109) (fun _ h9 => h9) rfl dX11_chargeWord_26 ?_
        refine lv_aload_n hx hb dX11_chargeWord_29 rfl (lv_at hl 0 rfl) ?_
        obtain ⟨i7, hi7⟩ := hW.o11 hk_this
        replace hr := nnS hr
        obtain ⟨a30, hn30, hr⟩ := hr
        have hk_a30 : kd a30 = 9 := hT.1 234 _ _ hn30
        refine va_get (D := (dC, dI)) (ci := 11) (v := .ref (ad a30)) (C := RX11) (T := TX11) (N := 17) hx hb hts inX11 hown hK hP i7 hi7 rfl 14 (by decide) (hts (.fieldLink RX11 87 "SpellTurner" "textWords" "LSpellTurner$TextWords;") ic_108) (fun _ h9 => h9) (congrArg (fun o => some (va_re ad o)) hn30) dX11_chargeWord_30 ?_
        obtain ⟨i8, hi8⟩ := hW.o8 hk_a30
        refine va_get (D := (dC, dI)) (ci := 8) (v := .int ((G 161) a30)) (C := RX8) (T := TX8) (N := 8) hx hb hts inX8 hown hK hP i8 hi8 rfl 1 (by decide) (hts (.fieldLink RX11 258 "SpellTurner$TextWords" "length" "I") ic_110) (fun _ h9 => h9) rfl dX11_chargeWord_33 ?_
        replace hr := b1S hr
        obtain ⟨r36z, hc36, hr⟩ := hr
        have hFc := fr_all hD hS hA
        obtain ⟨i9, hi9⟩ := hW.o0 hk_a11
        refine va_calli (va_runV (As := [.int y2_1, .ref (ad a19), .int ((G 160) a23), .int ((G 161) a30)]) (rest := []) ⟨hx, hb, hml, hown, hts⟩ (m_X0_hasForm l dC dI kk ad H.size ws G P U (va_up V 7 d2_V7) X O kd ln cnt a11 y2_1 a19 ((G 160) a23) ((G 161) a30) hk_a11 hk_a19 hW hT r36z hc36) (cwV 4 hts gc_RX11_X0_hasForm_294 rfl rfl rfl (by decide +kernel) ⟨Nat.le_of_ble_eq_true rfl, Nat.le_of_ble_eq_true rfl⟩) ⟨fun a U g mk q => by obtain ⟨q0, q1, qP, qK, qD⟩ := q; exact ⟨q0, q1, qP, va_K.moved (u := U) (U := U.calling g mk a) (Vm.Alike.refl U.vm) qK, qD⟩, va_recv hK hP (ci := 0) (q0 := i9) rfl hi9, fun U hU hW => ⟨rfl, by rw [hU], by rw [hU]; exact hP, va_K.moved hW.alike hK, hD.weaken (fun _ _ _ _ => trivial)⟩⟩ rfl rfl hl.1 rfl (lv_room (Nat.le_of_ble_eq_true rfl)) dX11_chargeWord_36 ⟨Nat.le_of_ble_eq_true rfl, Nat.le_of_ble_eq_true rfl⟩) hS (fun q _ h => hFc q h) hFc (fun r36 w10 t H1 locs ht hvm hw hB hz1 hk1 hS => ?_)
        obtain ⟨hw0, hW, hT⟩ := hw
        replace hw0 : r36 = r36z := hw0
        subst hw0
        obtain ⟨hP1, hK1, hD1⟩ := hB
        rw [ht] at hP1
        obtain ⟨hP, hD⟩ := jn_all (w1 := w10) hFc hP1 hD1
        replace hP : va_P (dC, dI) vwCl w10 H1 := hP
        replace hD : va_D A w10 := hD
        clear hFc hP1 hK1 hD1 hk1 hz1 ht hvm
        generalize H1 = H at hP hS ⊢
        replace hr := jnS hr
        obtain ⟨j57, hj57, hr⟩ := hr
        have Jj57 : ∀ (c57_V7 : Nat → Nat → Int32) (ws : va_W) (H : Heap) (locs : List Loc) (ls : Array Slot), j57 c57_V7 = some c_V7 → LW ws ad kk kd ln G P U (va_up V 7 c57_V7) X O → TYP kd P O (V 0) cnt → va_P (dC, dI) vwCl ws H → va_D A ws → va_S A s.heap H locs → lv_has ls 2 [(0, .ref (ad this)), (1, .int y2_1)] → W p l e ({ frames := 5, cells := 0, slots := 0, locals := 134 } : Room) s m args below meth c H locs 0 0 Q (F0 m 57 ls []) := by
          intro c57_V7 ws H locs ls hr hW hT hP hD hS hl
          rw [hj57] at hr
          refine lv_iinc (v := (y2_1 + 1)) (lv' := [(1, .int (y2_1 + 1)), (0, .ref (ad this))]) hx hb dX11_chargeWord_57 hl (k := 1) rfl rfl (by decide) rfl (fun ls hl => ?_)
          refine lv_goto (tgt := 2) hx hb dX11_chargeWord_60 (by decide) ?_
          exact ih2 (y2_1 + 1) c57_V7 ws H _ ls hr hW hT hP hD hS (lv_sub hl [1, 0] rfl)
        refine lv_if_ne (tgt := 57) hx hb dX11_chargeWord_39 (by decide) (fun c39 => ?_) (fun c39 => ?_)
        · replace hr := iteF c39 hr
          exact Jj57 d2_V7 w10 H _ ls hr hW hT hP hD hS (lv_sub hl [0, 1] rfl)
        · replace hr := iteT c39 hr
          refine lv_aload_n hx hb dX11_chargeWord_42 rfl (lv_at hl 0 rfl) ?_
          obtain ⟨i11, hi11⟩ := hW.o11 hk_this
          replace hr := nnS hr
          obtain ⟨a43, hn43, hr⟩ := hr
          have hk_a43 : kd a43 = 3 := hT.1 236 _ _ hn43
          refine va_get (D := (dC, dI)) (ci := 11) (v := .ref (ad a43)) (C := RX11) (T := TX11) (N := 17) hx hb hts inX11 hown hK hP i11 hi11 rfl 16 (by decide) (hts (.fieldLink RX11 101 "SpellTurner" "mixture" "LSpellTurner$Mixture;") ic_114) (fun _ h9 => h9) (congrArg (fun o => some (va_re ad o)) hn43) dX11_chargeWord_43 ?_
          refine lv_aload_n hx hb dX11_chargeWord_46 rfl (lv_at hl 0 rfl) ?_
          obtain ⟨i12, hi12⟩ := hW.o11 hk_this
          replace hr := nnS hr
          obtain ⟨a47, hn47, hr⟩ := hr
          have hk_a47 : kd a47 = 9 := hT.1 234 _ _ hn47
          refine va_get (D := (dC, dI)) (ci := 11) (v := .ref (ad a47)) (C := RX11) (T := TX11) (N := 17) hx hb hts inX11 hown hK hP i12 hi12 rfl 14 (by decide) (hts (.fieldLink RX11 87 "SpellTurner" "textWords" "LSpellTurner$TextWords;") ic_108) (fun _ h9 => h9) (congrArg (fun o => some (va_re ad o)) hn47) dX11_chargeWord_47 ?_
          obtain ⟨i13, hi13⟩ := hW.o8 hk_a47
          refine va_get (D := (dC, dI)) (ci := 8) (v := .int ((G 162) a47)) (C := RX8) (T := TX8) (N := 8) hx hb hts inX8 hown hK hP i13 hi13 rfl 2 (by decide) (hts (.fieldLink RX11 298 "SpellTurner$TextWords" "lineNumber" "I") ic_115) (fun _ h9 => h9) rfl dX11_chargeWord_50 ?_
          refine lv_iload_n hx hb dX11_chargeWord_53 rfl (lv_at hl 1 rfl) ?_
          replace hr := b1S hr
          obtain ⟨c54_V7, hc54, hr⟩ := hr
          have hFc := fr_all hD hS hA
          obtain ⟨i14, hi14⟩ := hW.o2 hk_a43
          refine va_callv (va_runV (As := [.int ((G 162) a47), .int y2_1]) (rest := []) ⟨hx, hb, hml, hown, hts⟩ (m_X2_charge l dC dI kk ad H.size w10 G P U (va_up V 7 d2_V7) X O kd ln cnt a43 ((G 162) a47) y2_1 hk_a43 hW hT c54_V7 hc54) (cwV 2 hts gc_RX11_X2_charge_301 rfl rfl rfl (by decide +kernel) ⟨Nat.le_of_ble_eq_true rfl, Nat.le_of_ble_eq_true rfl⟩) ⟨fun a U g mk q => by obtain ⟨q0, q1, qP, qK, qD⟩ := q; exact ⟨q0, q1, qP, va_K.moved (u := U) (U := U.calling g mk a) (Vm.Alike.refl U.vm) qK, qD⟩, va_recv hK hP (ci := 2) (q0 := i14) rfl hi14, fun U hU hW => ⟨rfl, by rw [hU], by rw [hU]; exact hP, va_K.moved hW.alike hK, hD.weaken (fun _ _ _ _ => trivial)⟩⟩ rfl rfl hl.1 rfl (lv_room (Nat.le_of_ble_eq_true rfl)) dX11_chargeWord_54 ⟨Nat.le_of_ble_eq_true rfl, Nat.le_of_ble_eq_true rfl⟩) hS (fun q _ h => hFc q h) hFc (fun w15 t H1 locs ht hvm hw hB hz1 hk1 hS => ?_)
          obtain ⟨hW, hT⟩ := hw
          obtain ⟨hP1, hK1, hD1⟩ := hB
          rw [ht] at hP1
          obtain ⟨hP, hD⟩ := jn_all (w1 := w15) hFc hP1 hD1
          replace hP : va_P (dC, dI) vwCl w15 H1 := hP
          replace hD : va_D A w15 := hD
          clear hFc hP1 hK1 hD1 hk1 hz1 ht hvm
          generalize H1 = H at hP hS ⊢
          have eV : (va_up (va_up V 7 d2_V7) 7 c54_V7) = (va_up V 7 c54_V7) := by
            funext k
            by_cases h7 : k = 7
            · subst h7; rfl
            · simp only [va_up, h7, if_false]
          rw [eV] at hW
          clear eV
          exact Jj57 c54_V7 w15 H _ ls hr hW hT hP hD hS (lv_sub hl [0, 1] rfl)
  have eV : V = (va_up V 7 (V 7)) := by
    funext k
    by_cases h7 : k = 7
    · subst h7; rfl
    · simp only [va_up, h7, if_false]
  rw [eV] at hW
  clear eV
  exact lp2 NN 0 (V 7) ws H _ ls hr hW hT hP hD hS (lv_sub hl [1, 0] rfl)
set_option maxHeartbeats 4000000 in
set_option maxRecDepth 100000 in
theorem m_X11_chargeWord (l : Launch) (dC : Nat → ClassId) (dI : Nat → Nat → Nat) (kk : Nat → ClassId) (ad : Nat → Nat) (sz : Nat) (ws : va_W) (G : Nat → Nat → Int32) (P : Nat → Nat → Option Nat) (U : Nat → Nat → Int64) (V : Nat → Nat → Nat → Int32) (X : Nat → Nat → Nat → Int64) (O : Nat → Nat → Nat → Option Nat) (kd : Nat → Nat) (ln : Nat → Nat) (cnt : Nat) (this : Nat) (hk_this : kd this = 12) (hW : LW ws ad kk kd ln G P U V X O) (hT : TYP kd P O (V 0) cnt) (c_V7 : Nat → Nat → Int32) (hr : f_X11_chargeWord G P U V X O kd ln cnt this = some c_V7) : Met l yX11_chargeWord vmX11_chargeWord ({ frames := 5, cells := 0, slots := 0, locals := 134 } : Room) (va_Pc [.ref (ad this)] (fun U => U.heap.size = sz ∧ va_P (dC, dI) vwCl ws U.heap ∧ va_K (dC, dI) vwCl (cT kk) U ∧ va_D (fun _ => True) ws)) (va_Qv (fun w => LW w ad kk kd ln G P U (va_up V 7 c_V7) X O ∧ TYP kd P O (V 0) cnt) (fun w t => va_P (dC, dI) vwCl w t.heap ∧ va_K (dC, dI) vwCl (cT kk) t ∧ va_D (va_A ws sz) w) (va_A ws sz)) 0 0 (va_A ws sz) := by
  refine Met.ofW (cc := cX11_chargeWord) (maxL := 2) (ret := none) (by decide) rfl ?_
  intro p e s m args below meth c s₁ B hml hv
  obtain ⟨rfl, hsz, hP, hK, hD0⟩ := hv
  have hx := B.exec
  have hb := B.bytes
  have hrt := B.returns
  have hts := atoms_spec (ws := vmX11_chargeWord) B.pre
  have hown : s.vm.findClass RX11 = some m.cls := findClass_of_methodNamed B.named
  subst hsz
  have hD := hD0.self (sz := s.heap.size)
  generalize hAe : va_A ws s.heap.size = A at hD ⊢
  have hA : ∀ q : Nat, s.heap.size ≤ q → A q := fun q h => by rw [← hAe]; exact Or.inr h
  have hS : va_S A s.heap s.heap [] := va_S.rf
  have hl := lv_entry ([.ref (ad this)]) (n := 2) (Nat.le_of_ble_eq_true rfl)
  rw [lg_entry_eq]
  generalize (lg_sl ([.ref (ad this)]) ++ List.replicate (2 - (lg_sl ([.ref (ad this)])).length) Slot.unset).toArray = ls at hl ⊢
  exact bm_X11_chargeWord this hk_this c_V7 hr hx hb hml hown hts hA hK hW hT hP hD hS hl (fun pc ls c_V7z ws H locs he hd hW hT hP hD hS => by cases he; exact W.vret hx hb hrt (fun t ht hW9 => ⟨⟨ws, rfl, ⟨hW, hT⟩, by rw [ht]; exact hP, va_K.moved hW9.alike hK, hD⟩, hS.F ht⟩) hS.2.2 hd)
set_option maxHeartbeats 4000000 in
set_option maxRecDepth 100000 in
theorem bm_X11_collision {p : Program} {l : Launch} {e : Env} {s : State} {m : MethodId} {args : Array Value} {below : List Frame} {meth : Method} {c : Code} {Q : State → Prop} {A : Nat → Prop} {dC : Nat → ClassId} {dI : Nat → Nat → Nat} {kk : Nat → ClassId} {ad : Nat → Nat} {ws : va_W} {G : Nat → Nat → Int32} {P : Nat → Nat → Option Nat} {U : Nat → Nat → Int64} {V : Nat → Nat → Nat → Int32} {X : Nat → Nat → Nat → Int64} {O : Nat → Nat → Nat → Option Nat} {kd : Nat → Nat} {ln : Nat → Nat} {cnt : Nat} {H : Heap} {locs : List Loc} {ls : Array Slot} (this : Nat) (p0 : Int32) (hk_this : kd this = 12) (r : Int32) (hr : f_X11_collision G P U V X O kd ln cnt this p0 = some r) (hx : p.tables.exec = Jvm.exec) (hb : c.code = cX11_collision) (hml : c.maxLocals = 2) (hown : s.vm.findClass RX11 = some m.cls) (hts : ∀ w ∈ vmX11_collision, w.before args s = true) (hA : ∀ q : Nat, s.heap.size ≤ q → A q) (hK : va_K (dC, dI) vwCl (cT kk) s) (hW : LW ws ad kk kd ln G P U V X O) (hT : TYP kd P O (V 0) cnt) (hP : va_P (dC, dI) vwCl ws H) (hD : va_D A ws) (hS : va_S A s.heap H locs) (hl : lv_has ls 2 [(0, .ref (ad this)), (1, .int p0)])
    (K : ∀ (pc : Nat) (ls : Array Slot) (rz : Int32) (ws : va_W) (H : Heap) (locs : List Loc), some rz = some r → decode cX11_collision pc = .ok (.ireturn, 1) → LW ws ad kk kd ln G P U V X O → TYP kd P O (V 0) cnt → va_P (dC, dI) vwCl ws H → va_D A ws → va_S A s.heap H locs → W p l e ({ frames := 2, cells := 0, slots := 0, locals := 60 } : Room) s m args below meth c H locs 0 0 Q (F0 m pc ls [.int rz])) : W p l e ({ frames := 2, cells := 0, slots := 0, locals := 60 } : Room) s m args below meth c H locs 0 0 Q (F0 m 0 ls []) := by
  unfold f_X11_collision at hr
  refine lv_iload_n hx hb dX11_collision_0 rfl (lv_at hl 1 rfl) ?_
  replace hr := jnS hr
  obtain ⟨j22, hj22, hr⟩ := hr
  have Jj22 : ∀ (t22_0 : Int32) (ws : va_W) (H : Heap) (locs : List Loc) (ls : Array Slot), j22 t22_0 = some r → LW ws ad kk kd ln G P U V X O → TYP kd P O (V 0) cnt → va_P (dC, dI) vwCl ws H → va_D A ws → va_S A s.heap H locs → lv_has ls 2 [] → W p l e ({ frames := 2, cells := 0, slots := 0, locals := 60 } : Room) s m args below meth c H locs 0 0 Q (F0 m 22 ls [.int t22_0]) := by
    intro t22_0 ws H locs ls hr hW hT hP hD hS hl
    rw [hj22] at hr
    exact K 22 ls _ ws H _ hr dX11_collision_22 hW hT hP hD hS
  replace hr := jnS hr
  obtain ⟨j12, hj12, hr⟩ := hr
  have Jj12 : ∀ (ws : va_W) (H : Heap) (locs : List Loc) (ls : Array Slot), j12 () = some r → LW ws ad kk kd ln G P U V X O → TYP kd P O (V 0) cnt → va_P (dC, dI) vwCl ws H → va_D A ws → va_S A s.heap H locs → lv_has ls 2 [] → W p l e ({ frames := 2, cells := 0, slots := 0, locals := 60 } : Room) s m args below meth c H locs 0 0 Q (F0 m 12 ls []) := by
    intro ws H locs ls hr hW hT hP hD hS hl
    rw [hj12] at hr
    refine lv_iconst (v := (-1)) hx hb dX11_collision_12 (by decide +kernel) ?_
    refine lv_goto (tgt := 22) hx hb dX11_collision_13 (by decide) ?_
    exact Jj22 (-1) ws H _ ls hr hW hT hP hD hS (lv_sub hl [] rfl)
  refine lv_if_lt (tgt := 12) hx hb dX11_collision_1 (by decide) (fun c1 => ?_) (fun c1 => ?_)
  · replace hr := iteT c1 hr
    exact Jj12 ws H _ ls hr hW hT hP hD hS (lv_sub hl [] rfl)
  · replace hr := iteF c1 hr
    refine lv_iload_n hx hb dX11_collision_4 rfl (lv_at hl 1 rfl) ?_
    refine lv_aload_n hx hb dX11_collision_5 rfl (lv_at hl 0 rfl) ?_
    obtain ⟨i1, hi1⟩ := hW.o11 hk_this
    refine va_get (D := (dC, dI)) (ci := 11) (v := .int ((G 233) this)) (C := RX11) (T := TX11) (N := 17) hx hb hts inX11 hown hK hP i1 hi1 rfl 13 (by decide) (hts (.fieldLink RX11 81 "SpellTurner" "pairCount" "I") ic_121) (fun _ h9 => h9) rfl dX11_collision_6 ?_
    refine lv_icmp_lt (tgt := 16) hx hb dX11_collision_9 (by decide) (fun c9 => ?_) (fun c9 => ?_)
    · replace hr := iteT c9 hr
      refine lv_aload_n hx hb dX11_collision_16 rfl (lv_at hl 0 rfl) ?_
      obtain ⟨i2, hi2⟩ := hW.o11 hk_this
      replace hr := nnS hr
      obtain ⟨a17, hn17, hr⟩ := hr
      have hk_a17 : kd a17 = 105 := hT.1 232 _ _ hn17
      refine va_get (D := (dC, dI)) (ci := 11) (v := .ref (ad a17)) (C := RX11) (T := TX11) (N := 17) hx hb hts inX11 hown hK hP i2 hi2 rfl 12 (by decide) (hts (.fieldLink RX11 78 "SpellTurner" "pairs" "[I") ic_122) (fun _ h9 => h9) (congrArg (fun o => some (va_re ad o)) hn17) dX11_collision_17 ?_
      refine lv_iload_n hx hb dX11_collision_20 rfl (lv_at hl 1 rfl) ?_
      obtain ⟨i3, hi3⟩ := hW.v5 hk_a17
      replace hr := iteS hr
      obtain ⟨hi21, hr⟩ := hr
      refine va_iald (f := ((V 5) a17)) hx hb hK hP i3 1 hi3 rfl (inbV hi21) dX11_collision_21 ?_
      exact Jj22 (((V 5) a17) (Int32.toNatClampNeg p0)) ws H _ ls hr hW hT hP hD hS (lv_sub hl [] rfl)
    · replace hr := iteF c9 hr
      exact Jj12 ws H _ ls hr hW hT hP hD hS (lv_sub hl [] rfl)
set_option maxHeartbeats 4000000 in
set_option maxRecDepth 100000 in
theorem m_X11_collision (l : Launch) (dC : Nat → ClassId) (dI : Nat → Nat → Nat) (kk : Nat → ClassId) (ad : Nat → Nat) (sz : Nat) (ws : va_W) (G : Nat → Nat → Int32) (P : Nat → Nat → Option Nat) (U : Nat → Nat → Int64) (V : Nat → Nat → Nat → Int32) (X : Nat → Nat → Nat → Int64) (O : Nat → Nat → Nat → Option Nat) (kd : Nat → Nat) (ln : Nat → Nat) (cnt : Nat) (this : Nat) (p0 : Int32) (hk_this : kd this = 12) (hW : LW ws ad kk kd ln G P U V X O) (hT : TYP kd P O (V 0) cnt) (r : Int32) (hr : f_X11_collision G P U V X O kd ln cnt this p0 = some r) : Met l yX11_collision vmX11_collision ({ frames := 2, cells := 0, slots := 0, locals := 60 } : Room) (va_Pc [.ref (ad this), .int p0] (fun U => U.heap.size = sz ∧ va_P (dC, dI) vwCl ws U.heap ∧ va_K (dC, dI) vwCl (cT kk) U ∧ va_D (fun _ => True) ws)) (va_Qi (fun (rz : Int32) (w : va_W) => rz = r ∧ LW w ad kk kd ln G P U V X O ∧ TYP kd P O (V 0) cnt) (fun w t => va_P (dC, dI) vwCl w t.heap ∧ va_K (dC, dI) vwCl (cT kk) t ∧ va_D (va_A ws sz) w) (va_A ws sz)) 0 0 (va_A ws sz) := by
  refine Met.ofW (cc := cX11_collision) (maxL := 2) (ret := (some .int)) (by decide) rfl ?_
  intro p e s m args below meth c s₁ B hml hv
  obtain ⟨rfl, hsz, hP, hK, hD0⟩ := hv
  have hx := B.exec
  have hb := B.bytes
  have hrt := B.returns
  have hts := atoms_spec (ws := vmX11_collision) B.pre
  have hown : s.vm.findClass RX11 = some m.cls := findClass_of_methodNamed B.named
  subst hsz
  have hD := hD0.self (sz := s.heap.size)
  generalize hAe : va_A ws s.heap.size = A at hD ⊢
  have hA : ∀ q : Nat, s.heap.size ≤ q → A q := fun q h => by rw [← hAe]; exact Or.inr h
  have hS : va_S A s.heap s.heap [] := va_S.rf
  have hl := lv_entry ([.ref (ad this), .int p0]) (n := 2) (Nat.le_of_ble_eq_true rfl)
  rw [lg_entry_eq]
  generalize (lg_sl ([.ref (ad this), .int p0]) ++ List.replicate (2 - (lg_sl ([.ref (ad this), .int p0])).length) Slot.unset).toArray = ls at hl ⊢
  exact bm_X11_collision this p0 hk_this r hr hx hb hml hown hts hA hK hW hT hP hD hS hl (fun pc ls rz ws H locs he hd hW hT hP hD hS => by cases he; exact W.iret (v := r) hx hb hrt (fun t ht hW9 => ⟨⟨r, ws, rfl, ⟨rfl, hW, hT⟩, by rw [ht]; exact hP, va_K.moved hW9.alike hK, hD⟩, hS.F ht⟩) hS.2.2 hd)
set_option maxHeartbeats 4000000 in
set_option maxRecDepth 100000 in
theorem bm_X11_count {p : Program} {l : Launch} {e : Env} {s : State} {m : MethodId} {args : Array Value} {below : List Frame} {meth : Method} {c : Code} {Q : State → Prop} {A : Nat → Prop} {dC : Nat → ClassId} {dI : Nat → Nat → Nat} {kk : Nat → ClassId} {ad : Nat → Nat} {ws : va_W} {G : Nat → Nat → Int32} {P : Nat → Nat → Option Nat} {U : Nat → Nat → Int64} {V : Nat → Nat → Nat → Int32} {X : Nat → Nat → Nat → Int64} {O : Nat → Nat → Nat → Option Nat} {kd : Nat → Nat} {ln : Nat → Nat} {cnt : Nat} {H : Heap} {locs : List Loc} {ls : Array Slot} (this : Nat) (p0 : Int32) (hk_this : kd this = 12) (r : Int32) (hr : f_X11_count G P U V X O kd ln cnt this p0 = some r) (hx : p.tables.exec = Jvm.exec) (hb : c.code = cX11_count) (hml : c.maxLocals = 2) (hown : s.vm.findClass RX11 = some m.cls) (hts : ∀ w ∈ vmX11_count, w.before args s = true) (hA : ∀ q : Nat, s.heap.size ≤ q → A q) (hK : va_K (dC, dI) vwCl (cT kk) s) (hW : LW ws ad kk kd ln G P U V X O) (hT : TYP kd P O (V 0) cnt) (hP : va_P (dC, dI) vwCl ws H) (hD : va_D A ws) (hS : va_S A s.heap H locs) (hl : lv_has ls 2 [(0, .ref (ad this)), (1, .int p0)])
    (K : ∀ (pc : Nat) (ls : Array Slot) (rz : Int32) (ws : va_W) (H : Heap) (locs : List Loc), some rz = some r → decode cX11_count pc = .ok (.ireturn, 1) → LW ws ad kk kd ln G P U V X O → TYP kd P O (V 0) cnt → va_P (dC, dI) vwCl ws H → va_D A ws → va_S A s.heap H locs → W p l e ({ frames := 2, cells := 0, slots := 0, locals := 60 } : Room) s m args below meth c H locs 0 0 Q (F0 m pc ls [.int rz])) : W p l e ({ frames := 2, cells := 0, slots := 0, locals := 60 } : Room) s m args below meth c H locs 0 0 Q (F0 m 0 ls []) := by
  unfold f_X11_count at hr
  refine lv_iload_n hx hb dX11_count_0 rfl (lv_at hl 1 rfl) ?_
  have zk0 : (0 : Int32).toInt = 0 := by decide +kernel
  have zk1 : (1 : Int32).toInt = 1 := by decide +kernel
  have zk2 : (2 : Int32).toInt = 2 := by decide +kernel
  rcases Classical.em (p0 = 0) with c1_0 | c1_0
  · replace hr := iteT c1_0 hr
    refine lv_tableIn (off := 27) (tgt := 28) hx hb dX11_count_1 (by rw [c1_0]; decide +kernel) (by rw [c1_0]; decide +kernel) (by rw [c1_0]; decide +kernel) (by decide) ?_
    refine lv_aload_n hx hb dX11_count_28 rfl (lv_at hl 0 rfl) ?_
    obtain ⟨i1, hi1⟩ := hW.o11 hk_this
    refine va_get (D := (dC, dI)) (ci := 11) (v := .int ((G 222) this)) (C := RX11) (T := TX11) (N := 17) hx hb hts inX11 hown hK hP i1 hi1 rfl 2 (by decide) (hts (.fieldLink RX11 22 "SpellTurner" "reformCount" "I") ic_55) (fun _ h9 => h9) rfl dX11_count_29 ?_
    exact K 32 ls _ ws H _ hr dX11_count_32 hW hT hP hD hS
  · replace hr := iteF c1_0 hr
    rcases Classical.em (p0 = 1) with c1_1 | c1_1
    · replace hr := iteT c1_1 hr
      refine lv_tableIn (off := 32) (tgt := 33) hx hb dX11_count_1 (by rw [c1_1]; decide +kernel) (by rw [c1_1]; decide +kernel) (by rw [c1_1]; decide +kernel) (by decide) ?_
      refine lv_aload_n hx hb dX11_count_33 rfl (lv_at hl 0 rfl) ?_
      obtain ⟨i2, hi2⟩ := hW.o11 hk_this
      replace hr := nnS hr
      obtain ⟨a34, hn34, hr⟩ := hr
      have hk_a34 : kd a34 = 1 := hT.1 229 _ _ hn34
      refine va_get (D := (dC, dI)) (ci := 11) (v := .ref (ad a34)) (C := RX11) (T := TX11) (N := 17) hx hb hts inX11 hown hK hP i2 hi2 rfl 9 (by decide) (hts (.fieldLink RX11 67 "SpellTurner" "book" "LSpellTurner$Book;") ic_106) (fun _ h9 => h9) (congrArg (fun o => some (va_re ad o)) hn34) dX11_count_34 ?_
      obtain ⟨i3, hi3⟩ := hW.o0 hk_a34
      replace hr := nnS hr
      obtain ⟨a37, hn37, hr⟩ := hr
      have hk_a37 : kd a37 = 11 := hT.1 0 _ _ hn37
      refine va_get (D := (dC, dI)) (ci := 0) (v := .ref (ad a37)) (C := RX0) (T := TX0) (N := 6) hx hb hts inX0 hown hK hP i3 hi3 rfl 0 (by decide) (hts (.fieldLink RX11 197 "SpellTurner$Book" "words" "LSpellTurner$WordRow;") ic_124) (fun _ h9 => h9) (congrArg (fun o => some (va_re ad o)) hn37) dX11_count_37 ?_
      obtain ⟨i4, hi4⟩ := hW.o10 hk_a37
      refine va_get (D := (dC, dI)) (ci := 10) (v := .int ((G 203) a37)) (C := RX10) (T := TX10) (N := 4) hx hb hts inX10 hown hK hP i4 hi4 rfl 3 (by decide) (hts (.fieldLink RX11 151 "SpellTurner$WordRow" "count" "I") ic_67) (fun _ h9 => h9) rfl dX11_count_40 ?_
      exact K 43 ls _ ws H _ hr dX11_count_43 hW hT hP hD hS
    · replace hr := iteF c1_1 hr
      rcases Classical.em (p0 = 2) with c1_2 | c1_2
      · replace hr := iteT c1_2 hr
        refine lv_tableIn (off := 43) (tgt := 44) hx hb dX11_count_1 (by rw [c1_2]; decide +kernel) (by rw [c1_2]; decide +kernel) (by rw [c1_2]; decide +kernel) (by decide) ?_
        refine lv_aload_n hx hb dX11_count_44 rfl (lv_at hl 0 rfl) ?_
        obtain ⟨i5, hi5⟩ := hW.o11 hk_this
        replace hr := nnS hr
        obtain ⟨a45, hn45, hr⟩ := hr
        have hk_a45 : kd a45 = 8 := hT.1 220 _ _ hn45
        refine va_get (D := (dC, dI)) (ci := 11) (v := .ref (ad a45)) (C := RX11) (T := TX11) (N := 17) hx hb hts inX11 hown hK hP i5 hi5 rfl 0 (by decide) (hts (.fieldLink RX11 12 "SpellTurner" "tape" "LSpellTurner$Tape;") ic_48) (fun _ h9 => h9) (congrArg (fun o => some (va_re ad o)) hn45) dX11_count_45 ?_
        obtain ⟨i6, hi6⟩ := hW.o7 hk_a45
        refine va_get (D := (dC, dI)) (ci := 7) (v := .int ((G 141) a45)) (C := RX7) (T := TX7) (N := 2) hx hb hts inX7 hown hK hP i6 hi6 rfl 1 (by decide) (hts (.fieldLink RX11 105 "SpellTurner$Tape" "length" "I") ic_49) (fun _ h9 => h9) rfl dX11_count_48 ?_
        exact K 51 ls _ ws H _ hr dX11_count_51 hW hT hP hD hS
      · replace hr := iteF c1_2 hr
        have q1_0 := z_ne c1_0
        have q1_1 := z_ne c1_1
        have q1_2 := z_ne c1_2
        refine lv_tableOut (tgt := 52) hx hb dX11_count_1 (by omega) (by decide) ?_
        refine lv_iconst (v := (-1)) hx hb dX11_count_52 (by decide +kernel) ?_
        exact K 53 ls _ ws H _ hr dX11_count_53 hW hT hP hD hS
set_option maxHeartbeats 4000000 in
set_option maxRecDepth 100000 in
theorem m_X11_count (l : Launch) (dC : Nat → ClassId) (dI : Nat → Nat → Nat) (kk : Nat → ClassId) (ad : Nat → Nat) (sz : Nat) (ws : va_W) (G : Nat → Nat → Int32) (P : Nat → Nat → Option Nat) (U : Nat → Nat → Int64) (V : Nat → Nat → Nat → Int32) (X : Nat → Nat → Nat → Int64) (O : Nat → Nat → Nat → Option Nat) (kd : Nat → Nat) (ln : Nat → Nat) (cnt : Nat) (this : Nat) (p0 : Int32) (hk_this : kd this = 12) (hW : LW ws ad kk kd ln G P U V X O) (hT : TYP kd P O (V 0) cnt) (r : Int32) (hr : f_X11_count G P U V X O kd ln cnt this p0 = some r) : Met l yX11_count vmX11_count ({ frames := 2, cells := 0, slots := 0, locals := 60 } : Room) (va_Pc [.ref (ad this), .int p0] (fun U => U.heap.size = sz ∧ va_P (dC, dI) vwCl ws U.heap ∧ va_K (dC, dI) vwCl (cT kk) U ∧ va_D (fun _ => True) ws)) (va_Qi (fun (rz : Int32) (w : va_W) => rz = r ∧ LW w ad kk kd ln G P U V X O ∧ TYP kd P O (V 0) cnt) (fun w t => va_P (dC, dI) vwCl w t.heap ∧ va_K (dC, dI) vwCl (cT kk) t ∧ va_D (va_A ws sz) w) (va_A ws sz)) 0 0 (va_A ws sz) := by
  refine Met.ofW (cc := cX11_count) (maxL := 2) (ret := (some .int)) (by decide) rfl ?_
  intro p e s m args below meth c s₁ B hml hv
  obtain ⟨rfl, hsz, hP, hK, hD0⟩ := hv
  have hx := B.exec
  have hb := B.bytes
  have hrt := B.returns
  have hts := atoms_spec (ws := vmX11_count) B.pre
  have hown : s.vm.findClass RX11 = some m.cls := findClass_of_methodNamed B.named
  subst hsz
  have hD := hD0.self (sz := s.heap.size)
  generalize hAe : va_A ws s.heap.size = A at hD ⊢
  have hA : ∀ q : Nat, s.heap.size ≤ q → A q := fun q h => by rw [← hAe]; exact Or.inr h
  have hS : va_S A s.heap s.heap [] := va_S.rf
  have hl := lv_entry ([.ref (ad this), .int p0]) (n := 2) (Nat.le_of_ble_eq_true rfl)
  rw [lg_entry_eq]
  generalize (lg_sl ([.ref (ad this), .int p0]) ++ List.replicate (2 - (lg_sl ([.ref (ad this), .int p0])).length) Slot.unset).toArray = ls at hl ⊢
  exact bm_X11_count this p0 hk_this r hr hx hb hml hown hts hA hK hW hT hP hD hS hl (fun pc ls rz ws H locs he hd hW hT hP hD hS => by cases he; exact W.iret (v := r) hx hb hrt (fun t ht hW9 => ⟨⟨r, ws, rfl, ⟨rfl, hW, hT⟩, by rw [ht]; exact hP, va_K.moved hW9.alike hK, hD⟩, hS.F ht⟩) hS.2.2 hd)
set_option maxHeartbeats 4000000 in
set_option maxRecDepth 100000 in
theorem bm_X6_tallyOf {p : Program} {l : Launch} {e : Env} {s : State} {m : MethodId} {args : Array Value} {below : List Frame} {meth : Method} {c : Code} {Q : State → Prop} {A : Nat → Prop} {dC : Nat → ClassId} {dI : Nat → Nat → Nat} {kk : Nat → ClassId} {ad : Nat → Nat} {ws : va_W} {G : Nat → Nat → Int32} {P : Nat → Nat → Option Nat} {U : Nat → Nat → Int64} {V : Nat → Nat → Nat → Int32} {X : Nat → Nat → Nat → Int64} {O : Nat → Nat → Nat → Option Nat} {kd : Nat → Nat} {ln : Nat → Nat} {cnt : Nat} {H : Heap} {locs : List Loc} {ls : Array Slot} (this : Nat) (p0 : Int32) (hk_this : kd this = 7) (r : Int32) (hr : f_X6_tallyOf G P U V X O kd ln cnt this p0 = some r) (hx : p.tables.exec = Jvm.exec) (hb : c.code = cX6_tallyOf) (hml : c.maxLocals = 2) (hown : s.vm.findClass RX6 = some m.cls) (hts : ∀ w ∈ vmX6_tallyOf, w.before args s = true) (hA : ∀ q : Nat, s.heap.size ≤ q → A q) (hK : va_K (dC, dI) vwCl (cT kk) s) (hW : LW ws ad kk kd ln G P U V X O) (hT : TYP kd P O (V 0) cnt) (hP : va_P (dC, dI) vwCl ws H) (hD : va_D A ws) (hS : va_S A s.heap H locs) (hl : lv_has ls 2 [(0, .ref (ad this)), (1, .int p0)])
    (K : ∀ (pc : Nat) (ls : Array Slot) (rz : Int32) (ws : va_W) (H : Heap) (locs : List Loc), some rz = some r → decode cX6_tallyOf pc = .ok (.ireturn, 1) → LW ws ad kk kd ln G P U V X O → TYP kd P O (V 0) cnt → va_P (dC, dI) vwCl ws H → va_D A ws → va_S A s.heap H locs → W p l e ({ frames := 2, cells := 0, slots := 0, locals := 60 } : Room) s m args below meth c H locs 0 0 Q (F0 m pc ls [.int rz])) : W p l e ({ frames := 2, cells := 0, slots := 0, locals := 60 } : Room) s m args below meth c H locs 0 0 Q (F0 m 0 ls []) := by
  unfold f_X6_tallyOf at hr
  refine lv_aload_n hx hb dX6_tallyOf_0 rfl (lv_at hl 0 rfl) ?_
  obtain ⟨i1, hi1⟩ := hW.o6 hk_this
  refine va_get (D := (dC, dI)) (ci := 6) (v := .int ((G 124) this)) (C := RX6) (T := TX6) (N := 9) hx hb hts inX6 hown hK hP i1 hi1 rfl 4 (by decide) (hts (.fieldLink RX6 25 "SpellTurner$Scribe" "hasTold" "Z") ic_126) (fun _ h9 => h9) rfl dX6_tallyOf_1 ?_
  replace hr := jnS hr
  obtain ⟨j26, hj26, hr⟩ := hr
  have Jj26 : ∀ (t26_0 : Int32) (ws : va_W) (H : Heap) (locs : List Loc) (ls : Array Slot), j26 t26_0 = some r → LW ws ad kk kd ln G P U V X O → TYP kd P O (V 0) cnt → va_P (dC, dI) vwCl ws H → va_D A ws → va_S A s.heap H locs → lv_has ls 2 [] → W p l e ({ frames := 2, cells := 0, slots := 0, locals := 60 } : Room) s m args below meth c H locs 0 0 Q (F0 m 26 ls [.int t26_0]) := by
    intro t26_0 ws H locs ls hr hW hT hP hD hS hl
    rw [hj26] at hr
    exact K 26 ls _ ws H _ hr dX6_tallyOf_26 hW hT hP hD hS
  replace hr := jnS hr
  obtain ⟨j16, hj16, hr⟩ := hr
  have Jj16 : ∀ (ws : va_W) (H : Heap) (locs : List Loc) (ls : Array Slot), j16 () = some r → LW ws ad kk kd ln G P U V X O → TYP kd P O (V 0) cnt → va_P (dC, dI) vwCl ws H → va_D A ws → va_S A s.heap H locs → lv_has ls 2 [] → W p l e ({ frames := 2, cells := 0, slots := 0, locals := 60 } : Room) s m args below meth c H locs 0 0 Q (F0 m 16 ls []) := by
    intro ws H locs ls hr hW hT hP hD hS hl
    rw [hj16] at hr
    refine lv_iconst (v := (-1)) hx hb dX6_tallyOf_16 (by decide +kernel) ?_
    refine lv_goto (tgt := 26) hx hb dX6_tallyOf_17 (by decide) ?_
    exact Jj26 (-1) ws H _ ls hr hW hT hP hD hS (lv_sub hl [] rfl)
  refine lv_if_eq (tgt := 16) hx hb dX6_tallyOf_4 (by decide) (fun c4 => ?_) (fun c4 => ?_)
  · replace hr := iteT c4 hr
    exact Jj16 ws H _ ls hr hW hT hP hD hS (lv_sub hl [] rfl)
  · replace hr := iteF c4 hr
    refine lv_iload_n hx hb dX6_tallyOf_7 rfl (lv_at hl 1 rfl) ?_
    refine lv_if_lt (tgt := 16) hx hb dX6_tallyOf_8 (by decide) (fun c8 => ?_) (fun c8 => ?_)
    · replace hr := iteT c8 hr
      exact Jj16 ws H _ ls hr hW hT hP hD hS (lv_sub hl [] rfl)
    · replace hr := iteF c8 hr
      refine lv_iload_n hx hb dX6_tallyOf_11 rfl (lv_at hl 1 rfl) ?_
      refine lv_iconst (v := 5) hx hb dX6_tallyOf_12 (by decide +kernel) ?_
      refine lv_icmp_lt (tgt := 20) hx hb dX6_tallyOf_13 (by decide) (fun c13 => ?_) (fun c13 => ?_)
      · replace hr := iteT c13 hr
        refine lv_aload_n hx hb dX6_tallyOf_20 rfl (lv_at hl 0 rfl) ?_
        obtain ⟨i2, hi2⟩ := hW.o6 hk_this
        replace hr := nnS hr
        obtain ⟨a21, hn21, hr⟩ := hr
        have hk_a21 : kd a21 = 106 := hT.1 122 _ _ hn21
        refine va_get (D := (dC, dI)) (ci := 6) (v := .ref (ad a21)) (C := RX6) (T := TX6) (N := 9) hx hb hts inX6 hown hK hP i2 hi2 rfl 2 (by decide) (hts (.fieldLink RX6 18 "SpellTurner$Scribe" "toldTally" "[I") ic_127) (fun _ h9 => h9) (congrArg (fun o => some (va_re ad o)) hn21) dX6_tallyOf_21 ?_
        refine lv_iload_n hx hb dX6_tallyOf_24 rfl (lv_at hl 1 rfl) ?_
        obtain ⟨i3, hi3⟩ := hW.v6 hk_a21
        replace hr := iteS hr
        obtain ⟨hi25, hr⟩ := hr
        refine va_iald (f := ((V 6) a21)) hx hb hK hP i3 1 hi3 rfl (inbV hi25) dX6_tallyOf_25 ?_
        exact Jj26 (((V 6) a21) (Int32.toNatClampNeg p0)) ws H _ ls hr hW hT hP hD hS (lv_sub hl [] rfl)
      · replace hr := iteF c13 hr
        exact Jj16 ws H _ ls hr hW hT hP hD hS (lv_sub hl [] rfl)
set_option maxHeartbeats 4000000 in
set_option maxRecDepth 100000 in
theorem m_X6_tallyOf (l : Launch) (dC : Nat → ClassId) (dI : Nat → Nat → Nat) (kk : Nat → ClassId) (ad : Nat → Nat) (sz : Nat) (ws : va_W) (G : Nat → Nat → Int32) (P : Nat → Nat → Option Nat) (U : Nat → Nat → Int64) (V : Nat → Nat → Nat → Int32) (X : Nat → Nat → Nat → Int64) (O : Nat → Nat → Nat → Option Nat) (kd : Nat → Nat) (ln : Nat → Nat) (cnt : Nat) (this : Nat) (p0 : Int32) (hk_this : kd this = 7) (hW : LW ws ad kk kd ln G P U V X O) (hT : TYP kd P O (V 0) cnt) (r : Int32) (hr : f_X6_tallyOf G P U V X O kd ln cnt this p0 = some r) : Met l yX6_tallyOf vmX6_tallyOf ({ frames := 2, cells := 0, slots := 0, locals := 60 } : Room) (va_Pc [.ref (ad this), .int p0] (fun U => U.heap.size = sz ∧ va_P (dC, dI) vwCl ws U.heap ∧ va_K (dC, dI) vwCl (cT kk) U ∧ va_D (fun _ => True) ws)) (va_Qi (fun (rz : Int32) (w : va_W) => rz = r ∧ LW w ad kk kd ln G P U V X O ∧ TYP kd P O (V 0) cnt) (fun w t => va_P (dC, dI) vwCl w t.heap ∧ va_K (dC, dI) vwCl (cT kk) t ∧ va_D (va_A ws sz) w) (va_A ws sz)) 0 0 (va_A ws sz) := by
  refine Met.ofW (cc := cX6_tallyOf) (maxL := 2) (ret := (some .int)) (by decide) rfl ?_
  intro p e s m args below meth c s₁ B hml hv
  obtain ⟨rfl, hsz, hP, hK, hD0⟩ := hv
  have hx := B.exec
  have hb := B.bytes
  have hrt := B.returns
  have hts := atoms_spec (ws := vmX6_tallyOf) B.pre
  have hown : s.vm.findClass RX6 = some m.cls := findClass_of_methodNamed B.named
  subst hsz
  have hD := hD0.self (sz := s.heap.size)
  generalize hAe : va_A ws s.heap.size = A at hD ⊢
  have hA : ∀ q : Nat, s.heap.size ≤ q → A q := fun q h => by rw [← hAe]; exact Or.inr h
  have hS : va_S A s.heap s.heap [] := va_S.rf
  have hl := lv_entry ([.ref (ad this), .int p0]) (n := 2) (Nat.le_of_ble_eq_true rfl)
  rw [lg_entry_eq]
  generalize (lg_sl ([.ref (ad this), .int p0]) ++ List.replicate (2 - (lg_sl ([.ref (ad this), .int p0])).length) Slot.unset).toArray = ls at hl ⊢
  exact bm_X6_tallyOf this p0 hk_this r hr hx hb hml hown hts hA hK hW hT hP hD hS hl (fun pc ls rz ws H locs he hd hW hT hP hD hS => by cases he; exact W.iret (v := r) hx hb hrt (fun t ht hW9 => ⟨⟨r, ws, rfl, ⟨rfl, hW, hT⟩, by rw [ht]; exact hP, va_K.moved hW9.alike hK, hD⟩, hS.F ht⟩) hS.2.2 hd)
set_option maxHeartbeats 4000000 in
set_option maxRecDepth 100000 in
theorem bm_X11_counted {p : Program} {l : Launch} {e : Env} {s : State} {m : MethodId} {args : Array Value} {below : List Frame} {meth : Method} {c : Code} {Q : State → Prop} {A : Nat → Prop} {dC : Nat → ClassId} {dI : Nat → Nat → Nat} {kk : Nat → ClassId} {ad : Nat → Nat} {ws : va_W} {G : Nat → Nat → Int32} {P : Nat → Nat → Option Nat} {U : Nat → Nat → Int64} {V : Nat → Nat → Nat → Int32} {X : Nat → Nat → Nat → Int64} {O : Nat → Nat → Nat → Option Nat} {kd : Nat → Nat} {ln : Nat → Nat} {cnt : Nat} {H : Heap} {locs : List Loc} {ls : Array Slot} (this : Nat) (p0 : Int32) (hk_this : kd this = 12) (r : Int32) (hr : f_X11_counted G P U V X O kd ln cnt this p0 = some r) (hx : p.tables.exec = Jvm.exec) (hb : c.code = cX11_counted) (hml : c.maxLocals = 2) (hown : s.vm.findClass RX11 = some m.cls) (hts : ∀ w ∈ vmX11_counted, w.before args s = true) (hA : ∀ q : Nat, s.heap.size ≤ q → A q) (hK : va_K (dC, dI) vwCl (cT kk) s) (hW : LW ws ad kk kd ln G P U V X O) (hT : TYP kd P O (V 0) cnt) (hP : va_P (dC, dI) vwCl ws H) (hD : va_D A ws) (hS : va_S A s.heap H locs) (hl : lv_has ls 2 [(0, .ref (ad this)), (1, .int p0)])
    (K : ∀ (pc : Nat) (ls : Array Slot) (rz : Int32) (ws : va_W) (H : Heap) (locs : List Loc), some rz = some r → decode cX11_counted pc = .ok (.ireturn, 1) → LW ws ad kk kd ln G P U V X O → TYP kd P O (V 0) cnt → va_P (dC, dI) vwCl ws H → va_D A ws → va_S A s.heap H locs → W p l e ({ frames := 3, cells := 0, slots := 0, locals := 81 } : Room) s m args below meth c H locs 0 0 Q (F0 m pc ls [.int rz])) : W p l e ({ frames := 3, cells := 0, slots := 0, locals := 81 } : Room) s m args below meth c H locs 0 0 Q (F0 m 0 ls []) := by
  unfold f_X11_counted at hr
  refine lv_aload_n hx hb dX11_counted_0 rfl (lv_at hl 0 rfl) ?_
  obtain ⟨i1, hi1⟩ := hW.o11 hk_this
  replace hr := nnS hr
  obtain ⟨a1, hn1, hr⟩ := hr
  have hk_a1 : kd a1 = 7 := hT.1 235 _ _ hn1
  refine va_get (D := (dC, dI)) (ci := 11) (v := .ref (ad a1)) (C := RX11) (T := TX11) (N := 17) hx hb hts inX11 hown hK hP i1 hi1 rfl 15 (by decide) (hts (.fieldLink RX11 94 "SpellTurner" "scribe" "LSpellTurner$Scribe;") ic_129) (fun _ h9 => h9) (congrArg (fun o => some (va_re ad o)) hn1) dX11_counted_1 ?_
  refine lv_iload_n hx hb dX11_counted_4 rfl (lv_at hl 1 rfl) ?_
  replace hr := b1S hr
  obtain ⟨r5z, hc5, hr⟩ := hr
  have hFc := fr_all hD hS hA
  obtain ⟨i2, hi2⟩ := hW.o6 hk_a1
  refine va_calli (va_runV (As := [.int p0]) (rest := []) ⟨hx, hb, hml, hown, hts⟩ (m_X6_tallyOf l dC dI kk ad H.size ws G P U V X O kd ln cnt a1 p0 hk_a1 hW hT r5z hc5) (cwV 1 hts gc_RX11_X6_tallyOf_277 rfl rfl rfl (by decide +kernel) ⟨Nat.le_of_ble_eq_true rfl, Nat.le_of_ble_eq_true rfl⟩) ⟨fun a U g mk q => by obtain ⟨q0, q1, qP, qK, qD⟩ := q; exact ⟨q0, q1, qP, va_K.moved (u := U) (U := U.calling g mk a) (Vm.Alike.refl U.vm) qK, qD⟩, va_recv hK hP (ci := 6) (q0 := i2) rfl hi2, fun U hU hW => ⟨rfl, by rw [hU], by rw [hU]; exact hP, va_K.moved hW.alike hK, hD.weaken (fun _ _ _ _ => trivial)⟩⟩ rfl rfl hl.1 rfl (lv_room (Nat.le_of_ble_eq_true rfl)) dX11_counted_5 ⟨Nat.le_of_ble_eq_true rfl, Nat.le_of_ble_eq_true rfl⟩) hS (fun q _ h => hFc q h) hFc (fun r5 w3 t H1 locs ht hvm hw hB hz1 hk1 hS => ?_)
  obtain ⟨hw0, hW, hT⟩ := hw
  replace hw0 : r5 = r5z := hw0
  subst hw0
  obtain ⟨hP1, hK1, hD1⟩ := hB
  rw [ht] at hP1
  obtain ⟨hP, hD⟩ := jn_all (w1 := w3) hFc hP1 hD1
  replace hP : va_P (dC, dI) vwCl w3 H1 := hP
  replace hD : va_D A w3 := hD
  clear hFc hP1 hK1 hD1 hk1 hz1 ht hvm
  generalize H1 = H at hP hS ⊢
  exact K 8 ls _ w3 H _ hr dX11_counted_8 hW hT hP hD hS
set_option maxHeartbeats 4000000 in
set_option maxRecDepth 100000 in
theorem m_X11_counted (l : Launch) (dC : Nat → ClassId) (dI : Nat → Nat → Nat) (kk : Nat → ClassId) (ad : Nat → Nat) (sz : Nat) (ws : va_W) (G : Nat → Nat → Int32) (P : Nat → Nat → Option Nat) (U : Nat → Nat → Int64) (V : Nat → Nat → Nat → Int32) (X : Nat → Nat → Nat → Int64) (O : Nat → Nat → Nat → Option Nat) (kd : Nat → Nat) (ln : Nat → Nat) (cnt : Nat) (this : Nat) (p0 : Int32) (hk_this : kd this = 12) (hW : LW ws ad kk kd ln G P U V X O) (hT : TYP kd P O (V 0) cnt) (r : Int32) (hr : f_X11_counted G P U V X O kd ln cnt this p0 = some r) : Met l yX11_counted vmX11_counted ({ frames := 3, cells := 0, slots := 0, locals := 81 } : Room) (va_Pc [.ref (ad this), .int p0] (fun U => U.heap.size = sz ∧ va_P (dC, dI) vwCl ws U.heap ∧ va_K (dC, dI) vwCl (cT kk) U ∧ va_D (fun _ => True) ws)) (va_Qi (fun (rz : Int32) (w : va_W) => rz = r ∧ LW w ad kk kd ln G P U V X O ∧ TYP kd P O (V 0) cnt) (fun w t => va_P (dC, dI) vwCl w t.heap ∧ va_K (dC, dI) vwCl (cT kk) t ∧ va_D (va_A ws sz) w) (va_A ws sz)) 0 0 (va_A ws sz) := by
  refine Met.ofW (cc := cX11_counted) (maxL := 2) (ret := (some .int)) (by decide) rfl ?_
  intro p e s m args below meth c s₁ B hml hv
  obtain ⟨rfl, hsz, hP, hK, hD0⟩ := hv
  have hx := B.exec
  have hb := B.bytes
  have hrt := B.returns
  have hts := atoms_spec (ws := vmX11_counted) B.pre
  have hown : s.vm.findClass RX11 = some m.cls := findClass_of_methodNamed B.named
  subst hsz
  have hD := hD0.self (sz := s.heap.size)
  generalize hAe : va_A ws s.heap.size = A at hD ⊢
  have hA : ∀ q : Nat, s.heap.size ≤ q → A q := fun q h => by rw [← hAe]; exact Or.inr h
  have hS : va_S A s.heap s.heap [] := va_S.rf
  have hl := lv_entry ([.ref (ad this), .int p0]) (n := 2) (Nat.le_of_ble_eq_true rfl)
  rw [lg_entry_eq]
  generalize (lg_sl ([.ref (ad this), .int p0]) ++ List.replicate (2 - (lg_sl ([.ref (ad this), .int p0])).length) Slot.unset).toArray = ls at hl ⊢
  exact bm_X11_counted this p0 hk_this r hr hx hb hml hown hts hA hK hW hT hP hD hS hl (fun pc ls rz ws H locs he hd hW hT hP hD hS => by cases he; exact W.iret (v := r) hx hb hrt (fun t ht hW9 => ⟨⟨r, ws, rfl, ⟨rfl, hW, hT⟩, by rw [ht]; exact hP, va_K.moved hW9.alike hK, hD⟩, hS.F ht⟩) hS.2.2 hd)
set_option maxHeartbeats 4000000 in
set_option maxRecDepth 100000 in
theorem bm_X11_form {p : Program} {l : Launch} {e : Env} {s : State} {m : MethodId} {args : Array Value} {below : List Frame} {meth : Method} {c : Code} {Q : State → Prop} {A : Nat → Prop} {dC : Nat → ClassId} {dI : Nat → Nat → Nat} {kk : Nat → ClassId} {ad : Nat → Nat} {ws : va_W} {G : Nat → Nat → Int32} {P : Nat → Nat → Option Nat} {U : Nat → Nat → Int64} {V : Nat → Nat → Nat → Int32} {X : Nat → Nat → Nat → Int64} {O : Nat → Nat → Nat → Option Nat} {kd : Nat → Nat} {ln : Nat → Nat} {cnt : Nat} {H : Heap} {locs : List Loc} {ls : Array Slot} (this : Nat) (p0 : Int32) (p1 : Int32) (hk_this : kd this = 12) (r : Int32) (hr : f_X11_form G P U V X O kd ln cnt this p0 p1 = some r) (hx : p.tables.exec = Jvm.exec) (hb : c.code = cX11_form) (hml : c.maxLocals = 3) (hown : s.vm.findClass RX11 = some m.cls) (hts : ∀ w ∈ vmX11_form, w.before args s = true) (hA : ∀ q : Nat, s.heap.size ≤ q → A q) (hK : va_K (dC, dI) vwCl (cT kk) s) (hW : LW ws ad kk kd ln G P U V X O) (hT : TYP kd P O (V 0) cnt) (hP : va_P (dC, dI) vwCl ws H) (hD : va_D A ws) (hS : va_S A s.heap H locs) (hl : lv_has ls 3 [(0, .ref (ad this)), (1, .int p0), (2, .int p1)])
    (K : ∀ (pc : Nat) (ls : Array Slot) (rz : Int32) (ws : va_W) (H : Heap) (locs : List Loc), some rz = some r → decode cX11_form pc = .ok (.ireturn, 1) → LW ws ad kk kd ln G P U V X O → TYP kd P O (V 0) cnt → va_P (dC, dI) vwCl ws H → va_D A ws → va_S A s.heap H locs → W p l e ({ frames := 3, cells := 0, slots := 0, locals := 82 } : Room) s m args below meth c H locs 0 0 Q (F0 m pc ls [.int rz])) : W p l e ({ frames := 3, cells := 0, slots := 0, locals := 82 } : Room) s m args below meth c H locs 0 0 Q (F0 m 0 ls []) := by
  unfold f_X11_form at hr
  refine lv_aload_n hx hb dX11_form_0 rfl (lv_at hl 0 rfl) ?_
  obtain ⟨i1, hi1⟩ := hW.o11 hk_this
  replace hr := nnS hr
  obtain ⟨a1, hn1, hr⟩ := hr
  have hk_a1 : kd a1 = 11 := hT.1 227 _ _ hn1
  refine va_get (D := (dC, dI)) (ci := 11) (v := .ref (ad a1)) (C := RX11) (T := TX11) (N := 17) hx hb hts inX11 hown hK hP i1 hi1 rfl 7 (by decide) (hts (.fieldLink RX11 53 "SpellTurner" "latestForms" "LSpellTurner$WordRow;") ic_135) (fun _ h9 => h9) (congrArg (fun o => some (va_re ad o)) hn1) dX11_form_1 ?_
  refine lv_iload_n hx hb dX11_form_4 rfl (lv_at hl 1 rfl) ?_
  refine lv_iload_n hx hb dX11_form_5 rfl (lv_at hl 2 rfl) ?_
  replace hr := b1S hr
  obtain ⟨r6z, hc6, hr⟩ := hr
  have hFc := fr_all hD hS hA
  obtain ⟨i2, hi2⟩ := hW.o10 hk_a1
  refine va_calli (va_runV (As := [.int p0, .int p1]) (rest := []) ⟨hx, hb, hml, hown, hts⟩ (m_X10_letterAt l dC dI kk ad H.size ws G P U V X O kd ln cnt a1 p0 p1 hk_a1 hW hT r6z hc6) (cwV 2 hts gc_RX11_X10_letterAt_176 rfl rfl rfl (by decide +kernel) ⟨Nat.le_of_ble_eq_true rfl, Nat.le_of_ble_eq_true rfl⟩) ⟨fun a U g mk q => by obtain ⟨q0, q1, qP, qK, qD⟩ := q; exact ⟨q0, q1, qP, va_K.moved (u := U) (U := U.calling g mk a) (Vm.Alike.refl U.vm) qK, qD⟩, va_recv hK hP (ci := 10) (q0 := i2) rfl hi2, fun U hU hW => ⟨rfl, by rw [hU], by rw [hU]; exact hP, va_K.moved hW.alike hK, hD.weaken (fun _ _ _ _ => trivial)⟩⟩ rfl rfl hl.1 rfl (lv_room (Nat.le_of_ble_eq_true rfl)) dX11_form_6 ⟨Nat.le_of_ble_eq_true rfl, Nat.le_of_ble_eq_true rfl⟩) hS (fun q _ h => hFc q h) hFc (fun r6 w3 t H1 locs ht hvm hw hB hz1 hk1 hS => ?_)
  obtain ⟨hw0, hW, hT⟩ := hw
  replace hw0 : r6 = r6z := hw0
  subst hw0
  obtain ⟨hP1, hK1, hD1⟩ := hB
  rw [ht] at hP1
  obtain ⟨hP, hD⟩ := jn_all (w1 := w3) hFc hP1 hD1
  replace hP : va_P (dC, dI) vwCl w3 H1 := hP
  replace hD : va_D A w3 := hD
  clear hFc hP1 hK1 hD1 hk1 hz1 ht hvm
  generalize H1 = H at hP hS ⊢
  exact K 9 ls _ w3 H _ hr dX11_form_9 hW hT hP hD hS
set_option maxHeartbeats 4000000 in
set_option maxRecDepth 100000 in
theorem m_X11_form (l : Launch) (dC : Nat → ClassId) (dI : Nat → Nat → Nat) (kk : Nat → ClassId) (ad : Nat → Nat) (sz : Nat) (ws : va_W) (G : Nat → Nat → Int32) (P : Nat → Nat → Option Nat) (U : Nat → Nat → Int64) (V : Nat → Nat → Nat → Int32) (X : Nat → Nat → Nat → Int64) (O : Nat → Nat → Nat → Option Nat) (kd : Nat → Nat) (ln : Nat → Nat) (cnt : Nat) (this : Nat) (p0 : Int32) (p1 : Int32) (hk_this : kd this = 12) (hW : LW ws ad kk kd ln G P U V X O) (hT : TYP kd P O (V 0) cnt) (r : Int32) (hr : f_X11_form G P U V X O kd ln cnt this p0 p1 = some r) : Met l yX11_form vmX11_form ({ frames := 3, cells := 0, slots := 0, locals := 82 } : Room) (va_Pc [.ref (ad this), .int p0, .int p1] (fun U => U.heap.size = sz ∧ va_P (dC, dI) vwCl ws U.heap ∧ va_K (dC, dI) vwCl (cT kk) U ∧ va_D (fun _ => True) ws)) (va_Qi (fun (rz : Int32) (w : va_W) => rz = r ∧ LW w ad kk kd ln G P U V X O ∧ TYP kd P O (V 0) cnt) (fun w t => va_P (dC, dI) vwCl w t.heap ∧ va_K (dC, dI) vwCl (cT kk) t ∧ va_D (va_A ws sz) w) (va_A ws sz)) 0 0 (va_A ws sz) := by
  refine Met.ofW (cc := cX11_form) (maxL := 3) (ret := (some .int)) (by decide) rfl ?_
  intro p e s m args below meth c s₁ B hml hv
  obtain ⟨rfl, hsz, hP, hK, hD0⟩ := hv
  have hx := B.exec
  have hb := B.bytes
  have hrt := B.returns
  have hts := atoms_spec (ws := vmX11_form) B.pre
  have hown : s.vm.findClass RX11 = some m.cls := findClass_of_methodNamed B.named
  subst hsz
  have hD := hD0.self (sz := s.heap.size)
  generalize hAe : va_A ws s.heap.size = A at hD ⊢
  have hA : ∀ q : Nat, s.heap.size ≤ q → A q := fun q h => by rw [← hAe]; exact Or.inr h
  have hS : va_S A s.heap s.heap [] := va_S.rf
  have hl := lv_entry ([.ref (ad this), .int p0, .int p1]) (n := 3) (Nat.le_of_ble_eq_true rfl)
  rw [lg_entry_eq]
  generalize (lg_sl ([.ref (ad this), .int p0, .int p1]) ++ List.replicate (3 - (lg_sl ([.ref (ad this), .int p0, .int p1])).length) Slot.unset).toArray = ls at hl ⊢
  exact bm_X11_form this p0 p1 hk_this r hr hx hb hml hown hts hA hK hW hT hP hD hS hl (fun pc ls rz ws H locs he hd hW hT hP hD hS => by cases he; exact W.iret (v := r) hx hb hrt (fun t ht hW9 => ⟨⟨r, ws, rfl, ⟨rfl, hW, hT⟩, by rw [ht]; exact hP, va_K.moved hW9.alike hK, hD⟩, hS.F ht⟩) hS.2.2 hd)
set_option maxHeartbeats 4000000 in
set_option maxRecDepth 100000 in
theorem bm_X11_learn {p : Program} {l : Launch} {e : Env} {s : State} {m : MethodId} {args : Array Value} {below : List Frame} {meth : Method} {c : Code} {Q : State → Prop} {A : Nat → Prop} {dC : Nat → ClassId} {dI : Nat → Nat → Nat} {kk : Nat → ClassId} {ad : Nat → Nat} {ws : va_W} {G : Nat → Nat → Int32} {P : Nat → Nat → Option Nat} {U : Nat → Nat → Int64} {V : Nat → Nat → Nat → Int32} {X : Nat → Nat → Nat → Int64} {O : Nat → Nat → Nat → Option Nat} {kd : Nat → Nat} {ln : Nat → Nat} {cnt : Nat} {H : Heap} {locs : List Loc} {ls : Array Slot} (this : Nat) (hk_this : kd this = 12) (r : Int32) (c_G141 : Nat → Int32) (c_G203 : Nat → Int32) (c_V0 : Nat → Nat → Int32) (c_V1 : Nat → Nat → Int32) (hr : f_X11_learn G P U V X O kd ln cnt this = some (r, c_G141, c_G203, c_V0, c_V1)) (hx : p.tables.exec = Jvm.exec) (hb : c.code = cX11_learn) (hml : c.maxLocals = 3) (hown : s.vm.findClass RX11 = some m.cls) (hts : ∀ w ∈ vmX11_learn, w.before args s = true) (hA : ∀ q : Nat, s.heap.size ≤ q → A q) (hK : va_K (dC, dI) vwCl (cT kk) s) (hW : LW ws ad kk kd ln G P U V X O) (hT : TYP kd P O (V 0) cnt) (hP : va_P (dC, dI) vwCl ws H) (hD : va_D A ws) (hS : va_S A s.heap H locs) (hl : lv_has ls 3 [(0, .ref (ad this))])
    (K : ∀ (pc : Nat) (ls : Array Slot) (rz : Int32) (c_G141z : Nat → Int32) (c_G203z : Nat → Int32) (c_V0z : Nat → Nat → Int32) (c_V1z : Nat → Nat → Int32) (ws : va_W) (H : Heap) (locs : List Loc), some (rz, c_G141z, c_G203z, c_V0z, c_V1z) = some (r, c_G141, c_G203, c_V0, c_V1) → decode cX11_learn pc = .ok (.ireturn, 1) → LW ws ad kk kd ln (va_up (va_up G 141 c_G141z) 203 c_G203z) P U (va_up (va_up V 0 c_V0z) 1 c_V1z) X O → TYP kd P O c_V0z cnt → va_P (dC, dI) vwCl ws H → va_D A ws → va_S A s.heap H locs → W p l e ({ frames := 4, cells := 0, slots := 0, locals := 143 } : Room) s m args below meth c H locs 0 0 Q (F0 m pc ls [.int rz])) : W p l e ({ frames := 4, cells := 0, slots := 0, locals := 143 } : Room) s m args below meth c H locs 0 0 Q (F0 m 0 ls []) := by
  unfold f_X11_learn at hr
  refine lv_aload_n hx hb dX11_learn_0 rfl (lv_at hl 0 rfl) ?_
  obtain ⟨i1, hi1⟩ := hW.o11 hk_this
  replace hr := nnS hr
  obtain ⟨a1, hn1, hr⟩ := hr
  have hk_a1 : kd a1 = 8 := hT.1 220 _ _ hn1
  refine va_get (D := (dC, dI)) (ci := 11) (v := .ref (ad a1)) (C := RX11) (T := TX11) (N := 17) hx hb hts inX11 hown hK hP i1 hi1 rfl 0 (by decide) (hts (.fieldLink RX11 12 "SpellTurner" "tape" "LSpellTurner$Tape;") ic_48) (fun _ h9 => h9) (congrArg (fun o => some (va_re ad o)) hn1) dX11_learn_1 ?_
  replace hr := b2S hr
  obtain ⟨r4z, c4_G141, hc4, hr⟩ := hr
  have hFc := fr_all hD hS hA
  obtain ⟨i2, hi2⟩ := hW.o7 hk_a1
  refine va_calli (va_runV (As := []) (rest := []) ⟨hx, hb, hml, hown, hts⟩ (m_X7_take l dC dI kk ad H.size ws G P U V X O kd ln cnt a1 hk_a1 hW hT r4z c4_G141 hc4) (cwV 0 hts gc_RX11_X7_take_112 rfl rfl rfl (by decide +kernel) ⟨Nat.le_of_ble_eq_true rfl, Nat.le_of_ble_eq_true rfl⟩) ⟨fun a U g mk q => by obtain ⟨q0, q1, qP, qK, qD⟩ := q; exact ⟨q0, q1, qP, va_K.moved (u := U) (U := U.calling g mk a) (Vm.Alike.refl U.vm) qK, qD⟩, va_recv hK hP (ci := 7) (q0 := i2) rfl hi2, fun U hU hW => ⟨rfl, by rw [hU], by rw [hU]; exact hP, va_K.moved hW.alike hK, hD.weaken (fun _ _ _ _ => trivial)⟩⟩ rfl rfl hl.1 rfl (lv_room (Nat.le_of_ble_eq_true rfl)) dX11_learn_4 ⟨Nat.le_of_ble_eq_true rfl, Nat.le_of_ble_eq_true rfl⟩) hS (fun q _ h => hFc q h) hFc (fun r4 w3 t H1 locs ht hvm hw hB hz1 hk1 hS => ?_)
  obtain ⟨hw0, hW, hT⟩ := hw
  replace hw0 : r4 = r4z := hw0
  subst hw0
  obtain ⟨hP1, hK1, hD1⟩ := hB
  rw [ht] at hP1
  obtain ⟨hP, hD⟩ := jn_all (w1 := w3) hFc hP1 hD1
  replace hP : va_P (dC, dI) vwCl w3 H1 := hP
  replace hD : va_D A w3 := hD
  clear hFc hP1 hK1 hD1 hk1 hz1 ht hvm
  generalize H1 = H at hP hS ⊢
  refine lv_istore_n (lv' := [(1, .int r4), (0, .ref (ad this))]) hx hb dX11_learn_7 rfl hl (by decide) rfl (fun ls hl => ?_)
  refine lv_aload_n hx hb dX11_learn_8 rfl (lv_at hl 1 rfl) ?_
  obtain ⟨i4, hi4⟩ := hW.o11 hk_this
  replace hr := nnS hr
  obtain ⟨a9, hn9, hr⟩ := hr
  have hk_a9 : kd a9 = 8 := hT.1 220 _ _ hn9
  refine va_get (D := (dC, dI)) (ci := 11) (v := .ref (ad a9)) (C := RX11) (T := TX11) (N := 17) hx hb hts inX11 hown hK hP i4 hi4 rfl 0 (by decide) (hts (.fieldLink RX11 12 "SpellTurner" "tape" "LSpellTurner$Tape;") ic_48) (fun _ h9 => h9) (congrArg (fun o => some (va_re ad o)) hn9) dX11_learn_9 ?_
  refine lv_iload_n hx hb dX11_learn_12 rfl (lv_at hl 0 rfl) ?_
  replace hr := b1S hr
  obtain ⟨r13z, hc13, hr⟩ := hr
  have hFc := fr_all hD hS hA
  obtain ⟨i5, hi5⟩ := hW.o7 hk_a9
  refine va_calli (va_runV (As := [.int r4]) (rest := []) ⟨hx, hb, hml, hown, hts⟩ (m_X7_isWord l dC dI kk ad H.size w3 (va_up G 141 c4_G141) P U V X O kd ln cnt a9 r4 hk_a9 hW hT r13z hc13) (cwV 1 hts gc_RX11_X7_isWord_164 rfl rfl rfl (by decide +kernel) ⟨Nat.le_of_ble_eq_true rfl, Nat.le_of_ble_eq_true rfl⟩) ⟨fun a U g mk q => by obtain ⟨q0, q1, qP, qK, qD⟩ := q; exact ⟨q0, q1, qP, va_K.moved (u := U) (U := U.calling g mk a) (Vm.Alike.refl U.vm) qK, qD⟩, va_recv hK hP (ci := 7) (q0 := i5) rfl hi5, fun U hU hW => ⟨rfl, by rw [hU], by rw [hU]; exact hP, va_K.moved hW.alike hK, hD.weaken (fun _ _ _ _ => trivial)⟩⟩ rfl rfl hl.1 rfl (lv_room (Nat.le_of_ble_eq_true rfl)) dX11_learn_13 ⟨Nat.le_of_ble_eq_true rfl, Nat.le_of_ble_eq_true rfl⟩) hS (fun q _ h => hFc q h) hFc (fun r13 w6 t H1 locs ht hvm hw hB hz1 hk1 hS => ?_)
  obtain ⟨hw0, hW, hT⟩ := hw
  replace hw0 : r13 = r13z := hw0
  subst hw0
  obtain ⟨hP1, hK1, hD1⟩ := hB
  rw [ht] at hP1
  obtain ⟨hP, hD⟩ := jn_all (w1 := w6) hFc hP1 hD1
  replace hP : va_P (dC, dI) vwCl w6 H1 := hP
  replace hD : va_D A w6 := hD
  clear hFc hP1 hK1 hD1 hk1 hz1 ht hvm
  generalize H1 = H at hP hS ⊢
  refine lv_if_ne (tgt := 22) hx hb dX11_learn_16 (by decide) (fun c16 => ?_) (fun c16 => ?_)
  · replace hr := iteF c16 hr
    refine lv_aload_n hx hb dX11_learn_22 rfl (lv_at hl 1 rfl) ?_
    obtain ⟨i7, hi7⟩ := hW.o11 hk_this
    replace hr := nnS hr
    obtain ⟨a23, hn23, hr⟩ := hr
    have hk_a23 : kd a23 = 1 := hT.1 229 _ _ hn23
    refine va_get (D := (dC, dI)) (ci := 11) (v := .ref (ad a23)) (C := RX11) (T := TX11) (N := 17) hx hb hts inX11 hown hK hP i7 hi7 rfl 9 (by decide) (hts (.fieldLink RX11 67 "SpellTurner" "book" "LSpellTurner$Book;") ic_106) (fun _ h9 => h9) (congrArg (fun o => some (va_re ad o)) hn23) dX11_learn_23 ?_
    obtain ⟨i8, hi8⟩ := hW.o0 hk_a23
    replace hr := nnS hr
    obtain ⟨a26, hn26, hr⟩ := hr
    have hk_a26 : kd a26 = 11 := hT.1 0 _ _ hn26
    refine va_get (D := (dC, dI)) (ci := 0) (v := .ref (ad a26)) (C := RX0) (T := TX0) (N := 6) hx hb hts inX0 hown hK hP i8 hi8 rfl 0 (by decide) (hts (.fieldLink RX11 197 "SpellTurner$Book" "words" "LSpellTurner$WordRow;") ic_124) (fun _ h9 => h9) (congrArg (fun o => some (va_re ad o)) hn26) dX11_learn_26 ?_
    refine lv_aload_n hx hb dX11_learn_29 rfl (lv_at hl 1 rfl) ?_
    obtain ⟨i9, hi9⟩ := hW.o11 hk_this
    replace hr := nnS hr
    obtain ⟨a30, hn30, hr⟩ := hr
    have hk_a30 : kd a30 = 8 := hT.1 220 _ _ hn30
    refine va_get (D := (dC, dI)) (ci := 11) (v := .ref (ad a30)) (C := RX11) (T := TX11) (N := 17) hx hb hts inX11 hown hK hP i9 hi9 rfl 0 (by decide) (hts (.fieldLink RX11 12 "SpellTurner" "tape" "LSpellTurner$Tape;") ic_48) (fun _ h9 => h9) (congrArg (fun o => some (va_re ad o)) hn30) dX11_learn_30 ?_
    obtain ⟨i10, hi10⟩ := hW.o7 hk_a30
    replace hr := nnS hr
    obtain ⟨a33, hn33, hr⟩ := hr
    have hk_a33 : kd a33 = 100 := hT.1 140 _ _ hn33
    refine va_get (D := (dC, dI)) (ci := 7) (v := .ref (ad a33)) (C := RX7) (T := TX7) (N := 2) hx hb hts inX7 hown hK hP i10 hi10 rfl 0 (by decide) (hts (.fieldLink RX11 120 "SpellTurner$Tape" "bytes" "[B") ic_107) (fun _ h9 => h9) (congrArg (fun o => some (va_re ad o)) hn33) dX11_learn_33 ?_
    refine lv_iconst (v := 0) hx hb dX11_learn_36 (by decide +kernel) ?_
    refine lv_iload_n hx hb dX11_learn_37 rfl (lv_at hl 0 rfl) ?_
    replace hr := b1S hr
    obtain ⟨r38z, hc38, hr⟩ := hr
    have hFc := fr_all hD hS hA
    obtain ⟨i11, hi11⟩ := hW.o10 hk_a26
    refine va_calli (va_runV (As := [.ref (ad a33), .int 0, .int r4]) (rest := []) ⟨hx, hb, hml, hown, hts⟩ (m_X10_find l dC dI kk ad H.size w6 (va_up G 141 c4_G141) P U V X O kd ln cnt a26 a33 0 r4 hk_a26 hk_a33 hW hT r38z hc38) (cwV 3 hts gc_RX11_X10_find_180 rfl rfl rfl (by decide +kernel) ⟨Nat.le_of_ble_eq_true rfl, Nat.le_of_ble_eq_true rfl⟩) ⟨fun a U g mk q => by obtain ⟨q0, q1, qP, qK, qD⟩ := q; exact ⟨q0, q1, qP, va_K.moved (u := U) (U := U.calling g mk a) (Vm.Alike.refl U.vm) qK, qD⟩, va_recv hK hP (ci := 10) (q0 := i11) rfl hi11, fun U hU hW => ⟨rfl, by rw [hU], by rw [hU]; exact hP, va_K.moved hW.alike hK, hD.weaken (fun _ _ _ _ => trivial)⟩⟩ rfl rfl hl.1 rfl (lv_room (Nat.le_of_ble_eq_true rfl)) dX11_learn_38 ⟨Nat.le_of_ble_eq_true rfl, Nat.le_of_ble_eq_true rfl⟩) hS (fun q _ h => hFc q h) hFc (fun r38 w12 t H1 locs ht hvm hw hB hz1 hk1 hS => ?_)
    obtain ⟨hw0, hW, hT⟩ := hw
    replace hw0 : r38 = r38z := hw0
    subst hw0
    obtain ⟨hP1, hK1, hD1⟩ := hB
    rw [ht] at hP1
    obtain ⟨hP, hD⟩ := jn_all (w1 := w12) hFc hP1 hD1
    replace hP : va_P (dC, dI) vwCl w12 H1 := hP
    replace hD : va_D A w12 := hD
    clear hFc hP1 hK1 hD1 hk1 hz1 ht hvm
    generalize H1 = H at hP hS ⊢
    refine lv_istore_n (lv' := [(2, .int r38), (1, .int r4), (0, .ref (ad this))]) hx hb dX11_learn_41 rfl hl (by decide) rfl (fun ls hl => ?_)
    refine lv_iload_n hx hb dX11_learn_42 rfl (lv_at hl 0 rfl) ?_
    refine lv_iconst (v := (-1)) hx hb dX11_learn_43 (by decide +kernel) ?_
    refine lv_icmp_eq (tgt := 49) hx hb dX11_learn_44 (by decide) (fun c44 => ?_) (fun c44 => ?_)
    · replace hr := iteT c44 hr
      refine lv_aload_n hx hb dX11_learn_49 rfl (lv_at hl 2 rfl) ?_
      obtain ⟨i13, hi13⟩ := hW.o11 hk_this
      replace hr := nnS hr
      obtain ⟨a50, hn50, hr⟩ := hr
      have hk_a50 : kd a50 = 1 := hT.1 229 _ _ hn50
      refine va_get (D := (dC, dI)) (ci := 11) (v := .ref (ad a50)) (C := RX11) (T := TX11) (N := 17) hx hb hts inX11 hown hK hP i13 hi13 rfl 9 (by decide) (hts (.fieldLink RX11 67 "SpellTurner" "book" "LSpellTurner$Book;") ic_106) (fun _ h9 => h9) (congrArg (fun o => some (va_re ad o)) hn50) dX11_learn_50 ?_
      obtain ⟨i14, hi14⟩ := hW.o0 hk_a50
      replace hr := nnS hr
      obtain ⟨a53, hn53, hr⟩ := hr
      have hk_a53 : kd a53 = 11 := hT.1 0 _ _ hn53
      refine va_get (D := (dC, dI)) (ci := 0) (v := .ref (ad a53)) (C := RX0) (T := TX0) (N := 6) hx hb hts inX0 hown hK hP i14 hi14 rfl 0 (by decide) (hts (.fieldLink RX11 197 "SpellTurner$Book" "words" "LSpellTurner$WordRow;") ic_124) (fun _ h9 => h9) (congrArg (fun o => some (va_re ad o)) hn53) dX11_learn_53 ?_
      replace hr := b1S hr
      obtain ⟨r56z, hc56, hr⟩ := hr
      have hFc := fr_all hD hS hA
      obtain ⟨i15, hi15⟩ := hW.o10 hk_a53
      refine va_calli (va_runV (As := []) (rest := []) ⟨hx, hb, hml, hown, hts⟩ (m_X10_isFull l dC dI kk ad H.size w12 (va_up G 141 c4_G141) P U V X O kd ln cnt a53 hk_a53 hW hT r56z hc56) (cwV 0 hts gc_RX11_X10_isFull_200 rfl rfl rfl (by decide +kernel) ⟨Nat.le_of_ble_eq_true rfl, Nat.le_of_ble_eq_true rfl⟩) ⟨fun a U g mk q => by obtain ⟨q0, q1, qP, qK, qD⟩ := q; exact ⟨q0, q1, qP, va_K.moved (u := U) (U := U.calling g mk a) (Vm.Alike.refl U.vm) qK, qD⟩, va_recv hK hP (ci := 10) (q0 := i15) rfl hi15, fun U hU hW => ⟨rfl, by rw [hU], by rw [hU]; exact hP, va_K.moved hW.alike hK, hD.weaken (fun _ _ _ _ => trivial)⟩⟩ rfl rfl hl.1 rfl (lv_room (Nat.le_of_ble_eq_true rfl)) dX11_learn_56 ⟨Nat.le_of_ble_eq_true rfl, Nat.le_of_ble_eq_true rfl⟩) hS (fun q _ h => hFc q h) hFc (fun r56 w16 t H1 locs ht hvm hw hB hz1 hk1 hS => ?_)
      obtain ⟨hw0, hW, hT⟩ := hw
      replace hw0 : r56 = r56z := hw0
      subst hw0
      obtain ⟨hP1, hK1, hD1⟩ := hB
      rw [ht] at hP1
      obtain ⟨hP, hD⟩ := jn_all (w1 := w16) hFc hP1 hD1
      replace hP : va_P (dC, dI) vwCl w16 H1 := hP
      replace hD : va_D A w16 := hD
      clear hFc hP1 hK1 hD1 hk1 hz1 ht hvm
      generalize H1 = H at hP hS ⊢
      refine lv_if_eq (tgt := 65) hx hb dX11_learn_59 (by decide) (fun c59 => ?_) (fun c59 => ?_)
      · replace hr := iteT c59 hr
        refine lv_aload_n hx hb dX11_learn_65 rfl (lv_at hl 2 rfl) ?_
        obtain ⟨i17, hi17⟩ := hW.o11 hk_this
        replace hr := nnS hr
        obtain ⟨a66, hn66, hr⟩ := hr
        have hk_a66 : kd a66 = 1 := hT.1 229 _ _ hn66
        refine va_get (D := (dC, dI)) (ci := 11) (v := .ref (ad a66)) (C := RX11) (T := TX11) (N := 17) hx hb hts inX11 hown hK hP i17 hi17 rfl 9 (by decide) (hts (.fieldLink RX11 67 "SpellTurner" "book" "LSpellTurner$Book;") ic_106) (fun _ h9 => h9) (congrArg (fun o => some (va_re ad o)) hn66) dX11_learn_66 ?_
        obtain ⟨i18, hi18⟩ := hW.o0 hk_a66
        replace hr := nnS hr
        obtain ⟨a69, hn69, hr⟩ := hr
        have hk_a69 : kd a69 = 11 := hT.1 0 _ _ hn69
        refine va_get (D := (dC, dI)) (ci := 0) (v := .ref (ad a69)) (C := RX0) (T := TX0) (N := 6) hx hb hts inX0 hown hK hP i18 hi18 rfl 0 (by decide) (hts (.fieldLink RX11 197 "SpellTurner$Book" "words" "LSpellTurner$WordRow;") ic_124) (fun _ h9 => h9) (congrArg (fun o => some (va_re ad o)) hn69) dX11_learn_69 ?_
        refine lv_aload_n hx hb dX11_learn_72 rfl (lv_at hl 2 rfl) ?_
        obtain ⟨i19, hi19⟩ := hW.o11 hk_this
        replace hr := nnS hr
        obtain ⟨a73, hn73, hr⟩ := hr
        have hk_a73 : kd a73 = 8 := hT.1 220 _ _ hn73
        refine va_get (D := (dC, dI)) (ci := 11) (v := .ref (ad a73)) (C := RX11) (T := TX11) (N := 17) hx hb hts inX11 hown hK hP i19 hi19 rfl 0 (by decide) (hts (.fieldLink RX11 12 "SpellTurner" "tape" "LSpellTurner$Tape;") ic_48) (fun _ h9 => h9) (congrArg (fun o => some (va_re ad o)) hn73) dX11_learn_73 ?_
        obtain ⟨i20, hi20⟩ := hW.o7 hk_a73
        replace hr := nnS hr
        obtain ⟨a76, hn76, hr⟩ := hr
        have hk_a76 : kd a76 = 100 := hT.1 140 _ _ hn76
        refine va_get (D := (dC, dI)) (ci := 7) (v := .ref (ad a76)) (C := RX7) (T := TX7) (N := 2) hx hb hts inX7 hown hK hP i20 hi20 rfl 0 (by decide) (hts (.fieldLink RX11 120 "SpellTurner$Tape" "bytes" "[B") ic_107) (fun _ h9 => h9) (congrArg (fun o => some (va_re ad o)) hn76) dX11_learn_76 ?_
        refine lv_iconst (v := 0) hx hb dX11_learn_79 (by decide +kernel) ?_
        refine lv_iload_n hx hb dX11_learn_80 rfl (lv_at hl 1 rfl) ?_
        replace hr := b3S hr
        obtain ⟨c81_G203, c81_V0, c81_V1, hc81, hr⟩ := hr
        have hFc := fr_all hD hS hA
        obtain ⟨i21, hi21⟩ := hW.o10 hk_a69
        refine va_callv (va_runV (As := [.ref (ad a76), .int 0, .int r4]) (rest := []) ⟨hx, hb, hml, hown, hts⟩ (m_X10_add l dC dI kk ad H.size w16 (va_up G 141 c4_G141) P U V X O kd ln cnt a69 a76 0 r4 hk_a69 hk_a76 hW hT c81_G203 c81_V0 c81_V1 hc81) (cwV 3 hts gc_RX11_X10_add_204 rfl rfl rfl (by decide +kernel) ⟨Nat.le_of_ble_eq_true rfl, Nat.le_of_ble_eq_true rfl⟩) ⟨fun a U g mk q => by obtain ⟨q0, q1, qP, qK, qD⟩ := q; exact ⟨q0, q1, qP, va_K.moved (u := U) (U := U.calling g mk a) (Vm.Alike.refl U.vm) qK, qD⟩, va_recv hK hP (ci := 10) (q0 := i21) rfl hi21, fun U hU hW => ⟨rfl, by rw [hU], by rw [hU]; exact hP, va_K.moved hW.alike hK, hD.weaken (fun _ _ _ _ => trivial)⟩⟩ rfl rfl hl.1 rfl (lv_room (Nat.le_of_ble_eq_true rfl)) dX11_learn_81 ⟨Nat.le_of_ble_eq_true rfl, Nat.le_of_ble_eq_true rfl⟩) hS (fun q _ h => hFc q h) hFc (fun w22 t H1 locs ht hvm hw hB hz1 hk1 hS => ?_)
        obtain ⟨hW, hT⟩ := hw
        obtain ⟨hP1, hK1, hD1⟩ := hB
        rw [ht] at hP1
        obtain ⟨hP, hD⟩ := jn_all (w1 := w22) hFc hP1 hD1
        replace hP : va_P (dC, dI) vwCl w22 H1 := hP
        replace hD : va_D A w22 := hD
        clear hFc hP1 hK1 hD1 hk1 hz1 ht hvm
        generalize H1 = H at hP hS ⊢
        refine lv_aload_n hx hb dX11_learn_84 rfl (lv_at hl 2 rfl) ?_
        obtain ⟨i23, hi23⟩ := hW.o11 hk_this
        replace hr := nnS hr
        obtain ⟨a85, hn85, hr⟩ := hr
        have hk_a85 : kd a85 = 1 := hT.1 229 _ _ hn85
        refine va_get (D := (dC, dI)) (ci := 11) (v := .ref (ad a85)) (C := RX11) (T := TX11) (N := 17) hx hb hts inX11 hown hK hP i23 hi23 rfl 9 (by decide) (hts (.fieldLink RX11 67 "SpellTurner" "book" "LSpellTurner$Book;") ic_106) (fun _ h9 => h9) (congrArg (fun o => some (va_re ad o)) hn85) dX11_learn_85 ?_
        obtain ⟨i24, hi24⟩ := hW.o0 hk_a85
        replace hr := nnS hr
        obtain ⟨a88, hn88, hr⟩ := hr
        have hk_a88 : kd a88 = 11 := hT.1 0 _ _ hn88
        refine va_get (D := (dC, dI)) (ci := 0) (v := .ref (ad a88)) (C := RX0) (T := TX0) (N := 6) hx hb hts inX0 hown hK hP i24 hi24 rfl 0 (by decide) (hts (.fieldLink RX11 197 "SpellTurner$Book" "words" "LSpellTurner$WordRow;") ic_124) (fun _ h9 => h9) (congrArg (fun o => some (va_re ad o)) hn88) dX11_learn_88 ?_
        obtain ⟨i25, hi25⟩ := hW.o10 hk_a88
        refine va_get (D := (dC, dI)) (ci := 10) (v := .int (c81_G203 a88)) (C := RX10) (T := TX10) (N := 4) hx hb hts inX10 hown hK hP i25 hi25 rfl 3 (by decide) (hts (.fieldLink RX11 151 "SpellTurner$WordRow" "count" "I") ic_67) (fun _ h9 => h9) rfl dX11_learn_91 ?_
        refine lv_iconst (v := 1) hx hb dX11_learn_94 (by decide +kernel) ?_
        refine lv_isub hx hb dX11_learn_95 ?_
        exact K 96 ls _ _ _ _ _ w22 H _ hr dX11_learn_96 hW hT hP hD hS
      · replace hr := iteF c59 hr
        refine lv_bipush (v := (-3)) hx hb dX11_learn_62 (by decide +kernel) ?_
        have eG : (va_up G 141 c4_G141) = (va_up (va_up G 141 c4_G141) 203 (G 203)) := by
          funext k
          by_cases h141 : k = 141
          · subst h141; rfl
          by_cases h203 : k = 203
          · subst h203; rfl
          · simp only [va_up, h141, h203, if_false]
        rw [eG] at hW
        clear eG
        have eV : V = (va_up (va_up V 0 (V 0)) 1 (V 1)) := by
          funext k
          by_cases h0 : k = 0
          · subst h0; rfl
          by_cases h1 : k = 1
          · subst h1; rfl
          · simp only [va_up, h0, h1, if_false]
        rw [eV] at hW
        clear eV
        exact K 64 ls _ _ _ _ _ w16 H _ hr dX11_learn_64 hW hT hP hD hS
    · replace hr := iteF c44 hr
      refine lv_iload_n hx hb dX11_learn_47 rfl (lv_at hl 0 rfl) ?_
      have eG : (va_up G 141 c4_G141) = (va_up (va_up G 141 c4_G141) 203 (G 203)) := by
        funext k
        by_cases h141 : k = 141
        · subst h141; rfl
        by_cases h203 : k = 203
        · subst h203; rfl
        · simp only [va_up, h141, h203, if_false]
      rw [eG] at hW
      clear eG
      have eV : V = (va_up (va_up V 0 (V 0)) 1 (V 1)) := by
        funext k
        by_cases h0 : k = 0
        · subst h0; rfl
        by_cases h1 : k = 1
        · subst h1; rfl
        · simp only [va_up, h0, h1, if_false]
      rw [eV] at hW
      clear eV
      exact K 48 ls _ _ _ _ _ w12 H _ hr dX11_learn_48 hW hT hP hD hS
  · replace hr := iteT c16 hr
    refine lv_bipush (v := (-2)) hx hb dX11_learn_19 (by decide +kernel) ?_
    have eG : (va_up G 141 c4_G141) = (va_up (va_up G 141 c4_G141) 203 (G 203)) := by
      funext k
      by_cases h141 : k = 141
      · subst h141; rfl
      by_cases h203 : k = 203
      · subst h203; rfl
      · simp only [va_up, h141, h203, if_false]
    rw [eG] at hW
    clear eG
    have eV : V = (va_up (va_up V 0 (V 0)) 1 (V 1)) := by
      funext k
      by_cases h0 : k = 0
      · subst h0; rfl
      by_cases h1 : k = 1
      · subst h1; rfl
      · simp only [va_up, h0, h1, if_false]
    rw [eV] at hW
    clear eV
    exact K 21 ls _ _ _ _ _ w6 H _ hr dX11_learn_21 hW hT hP hD hS
set_option maxHeartbeats 4000000 in
set_option maxRecDepth 100000 in
theorem m_X11_learn (l : Launch) (dC : Nat → ClassId) (dI : Nat → Nat → Nat) (kk : Nat → ClassId) (ad : Nat → Nat) (sz : Nat) (ws : va_W) (G : Nat → Nat → Int32) (P : Nat → Nat → Option Nat) (U : Nat → Nat → Int64) (V : Nat → Nat → Nat → Int32) (X : Nat → Nat → Nat → Int64) (O : Nat → Nat → Nat → Option Nat) (kd : Nat → Nat) (ln : Nat → Nat) (cnt : Nat) (this : Nat) (hk_this : kd this = 12) (hW : LW ws ad kk kd ln G P U V X O) (hT : TYP kd P O (V 0) cnt) (r : Int32) (c_G141 : Nat → Int32) (c_G203 : Nat → Int32) (c_V0 : Nat → Nat → Int32) (c_V1 : Nat → Nat → Int32) (hr : f_X11_learn G P U V X O kd ln cnt this = some (r, c_G141, c_G203, c_V0, c_V1)) : Met l yX11_learn vmX11_learn ({ frames := 4, cells := 0, slots := 0, locals := 143 } : Room) (va_Pc [.ref (ad this)] (fun U => U.heap.size = sz ∧ va_P (dC, dI) vwCl ws U.heap ∧ va_K (dC, dI) vwCl (cT kk) U ∧ va_D (fun _ => True) ws)) (va_Qi (fun (rz : Int32) (w : va_W) => rz = r ∧ LW w ad kk kd ln (va_up (va_up G 141 c_G141) 203 c_G203) P U (va_up (va_up V 0 c_V0) 1 c_V1) X O ∧ TYP kd P O c_V0 cnt) (fun w t => va_P (dC, dI) vwCl w t.heap ∧ va_K (dC, dI) vwCl (cT kk) t ∧ va_D (va_A ws sz) w) (va_A ws sz)) 0 0 (va_A ws sz) := by
  refine Met.ofW (cc := cX11_learn) (maxL := 3) (ret := (some .int)) (by decide) rfl ?_
  intro p e s m args below meth c s₁ B hml hv
  obtain ⟨rfl, hsz, hP, hK, hD0⟩ := hv
  have hx := B.exec
  have hb := B.bytes
  have hrt := B.returns
  have hts := atoms_spec (ws := vmX11_learn) B.pre
  have hown : s.vm.findClass RX11 = some m.cls := findClass_of_methodNamed B.named
  subst hsz
  have hD := hD0.self (sz := s.heap.size)
  generalize hAe : va_A ws s.heap.size = A at hD ⊢
  have hA : ∀ q : Nat, s.heap.size ≤ q → A q := fun q h => by rw [← hAe]; exact Or.inr h
  have hS : va_S A s.heap s.heap [] := va_S.rf
  have hl := lv_entry ([.ref (ad this)]) (n := 3) (Nat.le_of_ble_eq_true rfl)
  rw [lg_entry_eq]
  generalize (lg_sl ([.ref (ad this)]) ++ List.replicate (3 - (lg_sl ([.ref (ad this)])).length) Slot.unset).toArray = ls at hl ⊢
  exact bm_X11_learn this hk_this r c_G141 c_G203 c_V0 c_V1 hr hx hb hml hown hts hA hK hW hT hP hD hS hl (fun pc ls rz c_G141z c_G203z c_V0z c_V1z ws H locs he hd hW hT hP hD hS => by cases he; exact W.iret (v := r) hx hb hrt (fun t ht hW9 => ⟨⟨r, ws, rfl, ⟨rfl, hW, hT⟩, by rw [ht]; exact hP, va_K.moved hW9.alike hK, hD⟩, hS.F ht⟩) hS.2.2 hd)
set_option maxHeartbeats 4000000 in
set_option maxRecDepth 100000 in
theorem bm_X2_stageOf {p : Program} {l : Launch} {e : Env} {s : State} {m : MethodId} {args : Array Value} {below : List Frame} {meth : Method} {c : Code} {Q : State → Prop} {A : Nat → Prop} {dC : Nat → ClassId} {dI : Nat → Nat → Nat} {kk : Nat → ClassId} {ad : Nat → Nat} {ws : va_W} {G : Nat → Nat → Int32} {P : Nat → Nat → Option Nat} {U : Nat → Nat → Int64} {V : Nat → Nat → Nat → Int32} {X : Nat → Nat → Nat → Int64} {O : Nat → Nat → Nat → Option Nat} {kd : Nat → Nat} {ln : Nat → Nat} {cnt : Nat} {H : Heap} {locs : List Loc} {ls : Array Slot} (this : Nat) (p0 : Int32) (hk_this : kd this = 3) (r : Int32) (hr : f_X2_stageOf G P U V X O kd ln cnt this p0 = some r) (hx : p.tables.exec = Jvm.exec) (hb : c.code = cX2_stageOf) (hml : c.maxLocals = 2) (hown : s.vm.findClass RX2 = some m.cls) (hts : ∀ w ∈ vmX2_stageOf, w.before args s = true) (hA : ∀ q : Nat, s.heap.size ≤ q → A q) (hK : va_K (dC, dI) vwCl (cT kk) s) (hW : LW ws ad kk kd ln G P U V X O) (hT : TYP kd P O (V 0) cnt) (hP : va_P (dC, dI) vwCl ws H) (hD : va_D A ws) (hS : va_S A s.heap H locs) (hl : lv_has ls 2 [(0, .ref (ad this)), (1, .int p0)])
    (K : ∀ (pc : Nat) (ls : Array Slot) (rz : Int32) (ws : va_W) (H : Heap) (locs : List Loc), some rz = some r → decode cX2_stageOf pc = .ok (.ireturn, 1) → LW ws ad kk kd ln G P U V X O → TYP kd P O (V 0) cnt → va_P (dC, dI) vwCl ws H → va_D A ws → va_S A s.heap H locs → W p l e ({ frames := 2, cells := 0, slots := 0, locals := 60 } : Room) s m args below meth c H locs 0 0 Q (F0 m pc ls [.int rz])) : W p l e ({ frames := 2, cells := 0, slots := 0, locals := 60 } : Room) s m args below meth c H locs 0 0 Q (F0 m 0 ls []) := by
  unfold f_X2_stageOf at hr
  refine lv_iload_n hx hb dX2_stageOf_0 rfl (lv_at hl 1 rfl) ?_
  replace hr := jnS hr
  obtain ⟨j22, hj22, hr⟩ := hr
  have Jj22 : ∀ (t22_0 : Int32) (ws : va_W) (H : Heap) (locs : List Loc) (ls : Array Slot), j22 t22_0 = some r → LW ws ad kk kd ln G P U V X O → TYP kd P O (V 0) cnt → va_P (dC, dI) vwCl ws H → va_D A ws → va_S A s.heap H locs → lv_has ls 2 [] → W p l e ({ frames := 2, cells := 0, slots := 0, locals := 60 } : Room) s m args below meth c H locs 0 0 Q (F0 m 22 ls [.int t22_0]) := by
    intro t22_0 ws H locs ls hr hW hT hP hD hS hl
    rw [hj22] at hr
    exact K 22 ls _ ws H _ hr dX2_stageOf_22 hW hT hP hD hS
  replace hr := jnS hr
  obtain ⟨j12, hj12, hr⟩ := hr
  have Jj12 : ∀ (ws : va_W) (H : Heap) (locs : List Loc) (ls : Array Slot), j12 () = some r → LW ws ad kk kd ln G P U V X O → TYP kd P O (V 0) cnt → va_P (dC, dI) vwCl ws H → va_D A ws → va_S A s.heap H locs → lv_has ls 2 [] → W p l e ({ frames := 2, cells := 0, slots := 0, locals := 60 } : Room) s m args below meth c H locs 0 0 Q (F0 m 12 ls []) := by
    intro ws H locs ls hr hW hT hP hD hS hl
    rw [hj12] at hr
    refine lv_iconst (v := (-1)) hx hb dX2_stageOf_12 (by decide +kernel) ?_
    refine lv_goto (tgt := 22) hx hb dX2_stageOf_13 (by decide) ?_
    exact Jj22 (-1) ws H _ ls hr hW hT hP hD hS (lv_sub hl [] rfl)
  refine lv_if_lt (tgt := 12) hx hb dX2_stageOf_1 (by decide) (fun c1 => ?_) (fun c1 => ?_)
  · replace hr := iteT c1 hr
    exact Jj12 ws H _ ls hr hW hT hP hD hS (lv_sub hl [] rfl)
  · replace hr := iteF c1 hr
    refine lv_iload_n hx hb dX2_stageOf_4 rfl (lv_at hl 1 rfl) ?_
    refine lv_aload_n hx hb dX2_stageOf_5 rfl (lv_at hl 0 rfl) ?_
    obtain ⟨i1, hi1⟩ := hW.o2 hk_this
    refine va_get (D := (dC, dI)) (ci := 2) (v := .int ((G 43) this)) (C := RX2) (T := TX2) (N := 6) hx hb hts inX2 hown hK hP i1 hi1 rfl 3 (by decide) (hts (.fieldLink RX2 21 "SpellTurner$Mixture" "toldLines" "I") ic_150) (fun _ h9 => h9) rfl dX2_stageOf_6 ?_
    refine lv_icmp_lt (tgt := 16) hx hb dX2_stageOf_9 (by decide) (fun c9 => ?_) (fun c9 => ?_)
    · replace hr := iteT c9 hr
      refine lv_aload_n hx hb dX2_stageOf_16 rfl (lv_at hl 0 rfl) ?_
      obtain ⟨i2, hi2⟩ := hW.o2 hk_this
      replace hr := nnS hr
      obtain ⟨a17, hn17, hr⟩ := hr
      have hk_a17 : kd a17 = 109 := hT.1 42 _ _ hn17
      refine va_get (D := (dC, dI)) (ci := 2) (v := .ref (ad a17)) (C := RX2) (T := TX2) (N := 6) hx hb hts inX2 hown hK hP i2 hi2 rfl 2 (by decide) (hts (.fieldLink RX2 18 "SpellTurner$Mixture" "told" "[I") ic_151) (fun _ h9 => h9) (congrArg (fun o => some (va_re ad o)) hn17) dX2_stageOf_17 ?_
      refine lv_iload_n hx hb dX2_stageOf_20 rfl (lv_at hl 1 rfl) ?_
      obtain ⟨i3, hi3⟩ := hW.v9 hk_a17
      replace hr := iteS hr
      obtain ⟨hi21, hr⟩ := hr
      refine va_iald (f := ((V 9) a17)) hx hb hK hP i3 1 hi3 rfl (inbV hi21) dX2_stageOf_21 ?_
      exact Jj22 (((V 9) a17) (Int32.toNatClampNeg p0)) ws H _ ls hr hW hT hP hD hS (lv_sub hl [] rfl)
    · replace hr := iteF c9 hr
      exact Jj12 ws H _ ls hr hW hT hP hD hS (lv_sub hl [] rfl)
set_option maxHeartbeats 4000000 in
set_option maxRecDepth 100000 in
theorem m_X2_stageOf (l : Launch) (dC : Nat → ClassId) (dI : Nat → Nat → Nat) (kk : Nat → ClassId) (ad : Nat → Nat) (sz : Nat) (ws : va_W) (G : Nat → Nat → Int32) (P : Nat → Nat → Option Nat) (U : Nat → Nat → Int64) (V : Nat → Nat → Nat → Int32) (X : Nat → Nat → Nat → Int64) (O : Nat → Nat → Nat → Option Nat) (kd : Nat → Nat) (ln : Nat → Nat) (cnt : Nat) (this : Nat) (p0 : Int32) (hk_this : kd this = 3) (hW : LW ws ad kk kd ln G P U V X O) (hT : TYP kd P O (V 0) cnt) (r : Int32) (hr : f_X2_stageOf G P U V X O kd ln cnt this p0 = some r) : Met l yX2_stageOf vmX2_stageOf ({ frames := 2, cells := 0, slots := 0, locals := 60 } : Room) (va_Pc [.ref (ad this), .int p0] (fun U => U.heap.size = sz ∧ va_P (dC, dI) vwCl ws U.heap ∧ va_K (dC, dI) vwCl (cT kk) U ∧ va_D (fun _ => True) ws)) (va_Qi (fun (rz : Int32) (w : va_W) => rz = r ∧ LW w ad kk kd ln G P U V X O ∧ TYP kd P O (V 0) cnt) (fun w t => va_P (dC, dI) vwCl w t.heap ∧ va_K (dC, dI) vwCl (cT kk) t ∧ va_D (va_A ws sz) w) (va_A ws sz)) 0 0 (va_A ws sz) := by
  refine Met.ofW (cc := cX2_stageOf) (maxL := 2) (ret := (some .int)) (by decide) rfl ?_
  intro p e s m args below meth c s₁ B hml hv
  obtain ⟨rfl, hsz, hP, hK, hD0⟩ := hv
  have hx := B.exec
  have hb := B.bytes
  have hrt := B.returns
  have hts := atoms_spec (ws := vmX2_stageOf) B.pre
  have hown : s.vm.findClass RX2 = some m.cls := findClass_of_methodNamed B.named
  subst hsz
  have hD := hD0.self (sz := s.heap.size)
  generalize hAe : va_A ws s.heap.size = A at hD ⊢
  have hA : ∀ q : Nat, s.heap.size ≤ q → A q := fun q h => by rw [← hAe]; exact Or.inr h
  have hS : va_S A s.heap s.heap [] := va_S.rf
  have hl := lv_entry ([.ref (ad this), .int p0]) (n := 2) (Nat.le_of_ble_eq_true rfl)
  rw [lg_entry_eq]
  generalize (lg_sl ([.ref (ad this), .int p0]) ++ List.replicate (2 - (lg_sl ([.ref (ad this), .int p0])).length) Slot.unset).toArray = ls at hl ⊢
  exact bm_X2_stageOf this p0 hk_this r hr hx hb hml hown hts hA hK hW hT hP hD hS hl (fun pc ls rz ws H locs he hd hW hT hP hD hS => by cases he; exact W.iret (v := r) hx hb hrt (fun t ht hW9 => ⟨⟨r, ws, rfl, ⟨rfl, hW, hT⟩, by rw [ht]; exact hP, va_K.moved hW9.alike hK, hD⟩, hS.F ht⟩) hS.2.2 hd)
set_option maxHeartbeats 4000000 in
set_option maxRecDepth 100000 in
theorem bm_X11_line {p : Program} {l : Launch} {e : Env} {s : State} {m : MethodId} {args : Array Value} {below : List Frame} {meth : Method} {c : Code} {Q : State → Prop} {A : Nat → Prop} {dC : Nat → ClassId} {dI : Nat → Nat → Nat} {kk : Nat → ClassId} {ad : Nat → Nat} {ws : va_W} {G : Nat → Nat → Int32} {P : Nat → Nat → Option Nat} {U : Nat → Nat → Int64} {V : Nat → Nat → Nat → Int32} {X : Nat → Nat → Nat → Int64} {O : Nat → Nat → Nat → Option Nat} {kd : Nat → Nat} {ln : Nat → Nat} {cnt : Nat} {H : Heap} {locs : List Loc} {ls : Array Slot} (this : Nat) (p0 : Int32) (hk_this : kd this = 12) (r : Int32) (hr : f_X11_line G P U V X O kd ln cnt this p0 = some r) (hx : p.tables.exec = Jvm.exec) (hb : c.code = cX11_line) (hml : c.maxLocals = 2) (hown : s.vm.findClass RX11 = some m.cls) (hts : ∀ w ∈ vmX11_line, w.before args s = true) (hA : ∀ q : Nat, s.heap.size ≤ q → A q) (hK : va_K (dC, dI) vwCl (cT kk) s) (hW : LW ws ad kk kd ln G P U V X O) (hT : TYP kd P O (V 0) cnt) (hP : va_P (dC, dI) vwCl ws H) (hD : va_D A ws) (hS : va_S A s.heap H locs) (hl : lv_has ls 2 [(0, .ref (ad this)), (1, .int p0)])
    (K : ∀ (pc : Nat) (ls : Array Slot) (rz : Int32) (ws : va_W) (H : Heap) (locs : List Loc), some rz = some r → decode cX11_line pc = .ok (.ireturn, 1) → LW ws ad kk kd ln G P U V X O → TYP kd P O (V 0) cnt → va_P (dC, dI) vwCl ws H → va_D A ws → va_S A s.heap H locs → W p l e ({ frames := 3, cells := 0, slots := 0, locals := 81 } : Room) s m args below meth c H locs 0 0 Q (F0 m pc ls [.int rz])) : W p l e ({ frames := 3, cells := 0, slots := 0, locals := 81 } : Room) s m args below meth c H locs 0 0 Q (F0 m 0 ls []) := by
  unfold f_X11_line at hr
  refine lv_aload_n hx hb dX11_line_0 rfl (lv_at hl 0 rfl) ?_
  obtain ⟨i1, hi1⟩ := hW.o11 hk_this
  replace hr := nnS hr
  obtain ⟨a1, hn1, hr⟩ := hr
  have hk_a1 : kd a1 = 3 := hT.1 236 _ _ hn1
  refine va_get (D := (dC, dI)) (ci := 11) (v := .ref (ad a1)) (C := RX11) (T := TX11) (N := 17) hx hb hts inX11 hown hK hP i1 hi1 rfl 16 (by decide) (hts (.fieldLink RX11 101 "SpellTurner" "mixture" "LSpellTurner$Mixture;") ic_114) (fun _ h9 => h9) (congrArg (fun o => some (va_re ad o)) hn1) dX11_line_1 ?_
  refine lv_iload_n hx hb dX11_line_4 rfl (lv_at hl 1 rfl) ?_
  replace hr := b1S hr
  obtain ⟨r5z, hc5, hr⟩ := hr
  have hFc := fr_all hD hS hA
  obtain ⟨i2, hi2⟩ := hW.o2 hk_a1
  refine va_calli (va_runV (As := [.int p0]) (rest := []) ⟨hx, hb, hml, hown, hts⟩ (m_X2_stageOf l dC dI kk ad H.size ws G P U V X O kd ln cnt a1 p0 hk_a1 hW hT r5z hc5) (cwV 1 hts gc_RX11_X2_stageOf_291 rfl rfl rfl (by decide +kernel) ⟨Nat.le_of_ble_eq_true rfl, Nat.le_of_ble_eq_true rfl⟩) ⟨fun a U g mk q => by obtain ⟨q0, q1, qP, qK, qD⟩ := q; exact ⟨q0, q1, qP, va_K.moved (u := U) (U := U.calling g mk a) (Vm.Alike.refl U.vm) qK, qD⟩, va_recv hK hP (ci := 2) (q0 := i2) rfl hi2, fun U hU hW => ⟨rfl, by rw [hU], by rw [hU]; exact hP, va_K.moved hW.alike hK, hD.weaken (fun _ _ _ _ => trivial)⟩⟩ rfl rfl hl.1 rfl (lv_room (Nat.le_of_ble_eq_true rfl)) dX11_line_5 ⟨Nat.le_of_ble_eq_true rfl, Nat.le_of_ble_eq_true rfl⟩) hS (fun q _ h => hFc q h) hFc (fun r5 w3 t H1 locs ht hvm hw hB hz1 hk1 hS => ?_)
  obtain ⟨hw0, hW, hT⟩ := hw
  replace hw0 : r5 = r5z := hw0
  subst hw0
  obtain ⟨hP1, hK1, hD1⟩ := hB
  rw [ht] at hP1
  obtain ⟨hP, hD⟩ := jn_all (w1 := w3) hFc hP1 hD1
  replace hP : va_P (dC, dI) vwCl w3 H1 := hP
  replace hD : va_D A w3 := hD
  clear hFc hP1 hK1 hD1 hk1 hz1 ht hvm
  generalize H1 = H at hP hS ⊢
  exact K 8 ls _ w3 H _ hr dX11_line_8 hW hT hP hD hS
set_option maxHeartbeats 4000000 in
set_option maxRecDepth 100000 in
theorem m_X11_line (l : Launch) (dC : Nat → ClassId) (dI : Nat → Nat → Nat) (kk : Nat → ClassId) (ad : Nat → Nat) (sz : Nat) (ws : va_W) (G : Nat → Nat → Int32) (P : Nat → Nat → Option Nat) (U : Nat → Nat → Int64) (V : Nat → Nat → Nat → Int32) (X : Nat → Nat → Nat → Int64) (O : Nat → Nat → Nat → Option Nat) (kd : Nat → Nat) (ln : Nat → Nat) (cnt : Nat) (this : Nat) (p0 : Int32) (hk_this : kd this = 12) (hW : LW ws ad kk kd ln G P U V X O) (hT : TYP kd P O (V 0) cnt) (r : Int32) (hr : f_X11_line G P U V X O kd ln cnt this p0 = some r) : Met l yX11_line vmX11_line ({ frames := 3, cells := 0, slots := 0, locals := 81 } : Room) (va_Pc [.ref (ad this), .int p0] (fun U => U.heap.size = sz ∧ va_P (dC, dI) vwCl ws U.heap ∧ va_K (dC, dI) vwCl (cT kk) U ∧ va_D (fun _ => True) ws)) (va_Qi (fun (rz : Int32) (w : va_W) => rz = r ∧ LW w ad kk kd ln G P U V X O ∧ TYP kd P O (V 0) cnt) (fun w t => va_P (dC, dI) vwCl w t.heap ∧ va_K (dC, dI) vwCl (cT kk) t ∧ va_D (va_A ws sz) w) (va_A ws sz)) 0 0 (va_A ws sz) := by
  refine Met.ofW (cc := cX11_line) (maxL := 2) (ret := (some .int)) (by decide) rfl ?_
  intro p e s m args below meth c s₁ B hml hv
  obtain ⟨rfl, hsz, hP, hK, hD0⟩ := hv
  have hx := B.exec
  have hb := B.bytes
  have hrt := B.returns
  have hts := atoms_spec (ws := vmX11_line) B.pre
  have hown : s.vm.findClass RX11 = some m.cls := findClass_of_methodNamed B.named
  subst hsz
  have hD := hD0.self (sz := s.heap.size)
  generalize hAe : va_A ws s.heap.size = A at hD ⊢
  have hA : ∀ q : Nat, s.heap.size ≤ q → A q := fun q h => by rw [← hAe]; exact Or.inr h
  have hS : va_S A s.heap s.heap [] := va_S.rf
  have hl := lv_entry ([.ref (ad this), .int p0]) (n := 2) (Nat.le_of_ble_eq_true rfl)
  rw [lg_entry_eq]
  generalize (lg_sl ([.ref (ad this), .int p0]) ++ List.replicate (2 - (lg_sl ([.ref (ad this), .int p0])).length) Slot.unset).toArray = ls at hl ⊢
  exact bm_X11_line this p0 hk_this r hr hx hb hml hown hts hA hK hW hT hP hD hS hl (fun pc ls rz ws H locs he hd hW hT hP hD hS => by cases he; exact W.iret (v := r) hx hb hrt (fun t ht hW9 => ⟨⟨r, ws, rfl, ⟨rfl, hW, hT⟩, by rw [ht]; exact hP, va_K.moved hW9.alike hK, hD⟩, hS.F ht⟩) hS.2.2 hd)
set_option maxHeartbeats 4000000 in
set_option maxRecDepth 100000 in
theorem bm_X11_notePair {p : Program} {l : Launch} {e : Env} {s : State} {m : MethodId} {args : Array Value} {below : List Frame} {meth : Method} {c : Code} {Q : State → Prop} {A : Nat → Prop} {dC : Nat → ClassId} {dI : Nat → Nat → Nat} {kk : Nat → ClassId} {ad : Nat → Nat} {ws : va_W} {G : Nat → Nat → Int32} {P : Nat → Nat → Option Nat} {U : Nat → Nat → Int64} {V : Nat → Nat → Nat → Int32} {X : Nat → Nat → Nat → Int64} {O : Nat → Nat → Nat → Option Nat} {kd : Nat → Nat} {ln : Nat → Nat} {cnt : Nat} {H : Heap} {locs : List Loc} {ls : Array Slot} (this : Nat) (p0 : Int32) (hk_this : kd this = 12) (c_G233 : Nat → Int32) (c_V5 : Nat → Nat → Int32) (hr : f_X11_notePair G P U V X O kd ln cnt this p0 = some (c_G233, c_V5)) (hx : p.tables.exec = Jvm.exec) (hb : c.code = cX11_notePair) (hml : c.maxLocals = 2) (hown : s.vm.findClass RX11 = some m.cls) (hts : ∀ w ∈ vmX11_notePair, w.before args s = true) (hA : ∀ q : Nat, s.heap.size ≤ q → A q) (hK : va_K (dC, dI) vwCl (cT kk) s) (hW : LW ws ad kk kd ln G P U V X O) (hT : TYP kd P O (V 0) cnt) (hP : va_P (dC, dI) vwCl ws H) (hD : va_D A ws) (hS : va_S A s.heap H locs) (hl : lv_has ls 2 [(0, .ref (ad this)), (1, .int p0)])
    (K : ∀ (pc : Nat) (ls : Array Slot) (c_G233z : Nat → Int32) (c_V5z : Nat → Nat → Int32) (ws : va_W) (H : Heap) (locs : List Loc), some (c_G233z, c_V5z) = some (c_G233, c_V5) → decode cX11_notePair pc = .ok (.return_, 1) → LW ws ad kk kd ln (va_up G 233 c_G233z) P U (va_up V 5 c_V5z) X O → TYP kd P O (V 0) cnt → va_P (dC, dI) vwCl ws H → va_D A ws → va_S A s.heap H locs → W p l e ({ frames := 2, cells := 0, slots := 0, locals := 60 } : Room) s m args below meth c H locs 0 0 Q (F0 m pc ls [])) : W p l e ({ frames := 2, cells := 0, slots := 0, locals := 60 } : Room) s m args below meth c H locs 0 0 Q (F0 m 0 ls []) := by
  unfold f_X11_notePair at hr
  refine lv_aload_n hx hb dX11_notePair_0 rfl (lv_at hl 0 rfl) ?_
  obtain ⟨i1, hi1⟩ := hW.o11 hk_this
  refine va_get (D := (dC, dI)) (ci := 11) (v := .int ((G 233) this)) (C := RX11) (T := TX11) (N := 17) hx hb hts inX11 hown hK hP i1 hi1 rfl 13 (by decide) (hts (.fieldLink RX11 81 "SpellTurner" "pairCount" "I") ic_121) (fun _ h9 => h9) rfl dX11_notePair_1 ?_
  refine lv_sipush (v := 200) hx hb dX11_notePair_4 (by decide +kernel) ?_
  replace hr := jnS hr
  obtain ⟨j30, hj30, hr⟩ := hr
  have Jj30 : ∀ (c30_G233 : Nat → Int32) (c30_V5 : Nat → Nat → Int32) (ws : va_W) (H : Heap) (locs : List Loc) (ls : Array Slot), j30 c30_G233 c30_V5 = some (c_G233, c_V5) → LW ws ad kk kd ln (va_up G 233 c30_G233) P U (va_up V 5 c30_V5) X O → TYP kd P O (V 0) cnt → va_P (dC, dI) vwCl ws H → va_D A ws → va_S A s.heap H locs → lv_has ls 2 [] → W p l e ({ frames := 2, cells := 0, slots := 0, locals := 60 } : Room) s m args below meth c H locs 0 0 Q (F0 m 30 ls []) := by
    intro c30_G233 c30_V5 ws H locs ls hr hW hT hP hD hS hl
    rw [hj30] at hr
    exact K 30 ls _ _ ws H _ hr dX11_notePair_30 hW hT hP hD hS
  refine lv_icmp_ge (tgt := 30) hx hb dX11_notePair_7 (by decide) (fun c7 => ?_) (fun c7 => ?_)
  · replace hr := iteT c7 hr
    have eG : G = (va_up G 233 (G 233)) := by
      funext k
      by_cases h233 : k = 233
      · subst h233; rfl
      · simp only [va_up, h233, if_false]
    rw [eG] at hW
    clear eG
    have eV : V = (va_up V 5 (V 5)) := by
      funext k
      by_cases h5 : k = 5
      · subst h5; rfl
      · simp only [va_up, h5, if_false]
    rw [eV] at hW
    clear eV
    exact Jj30 (G 233) (V 5) ws H _ ls hr hW hT hP hD hS (lv_sub hl [] rfl)
  · replace hr := iteF c7 hr
    refine lv_aload_n hx hb dX11_notePair_10 rfl (lv_at hl 0 rfl) ?_
    obtain ⟨i2, hi2⟩ := hW.o11 hk_this
    replace hr := nnS hr
    obtain ⟨a11, hn11, hr⟩ := hr
    have hk_a11 : kd a11 = 105 := hT.1 232 _ _ hn11
    refine va_get (D := (dC, dI)) (ci := 11) (v := .ref (ad a11)) (C := RX11) (T := TX11) (N := 17) hx hb hts inX11 hown hK hP i2 hi2 rfl 12 (by decide) (hts (.fieldLink RX11 78 "SpellTurner" "pairs" "[I") ic_122) (fun _ h9 => h9) (congrArg (fun o => some (va_re ad o)) hn11) dX11_notePair_11 ?_
    refine lv_aload_n hx hb dX11_notePair_14 rfl (lv_at hl 0 rfl) ?_
    obtain ⟨i3, hi3⟩ := hW.o11 hk_this
    refine va_get (D := (dC, dI)) (ci := 11) (v := .int ((G 233) this)) (C := RX11) (T := TX11) (N := 17) hx hb hts inX11 hown hK hP i3 hi3 rfl 13 (by decide) (hts (.fieldLink RX11 81 "SpellTurner" "pairCount" "I") ic_121) (fun _ h9 => h9) rfl dX11_notePair_15 ?_
    refine lv_iload_n hx hb dX11_notePair_18 rfl (lv_at hl 1 rfl) ?_
    obtain ⟨i4, hi4⟩ := hW.v5 hk_a11
    replace hr := iteS hr
    obtain ⟨hi19, hr⟩ := hr
    refine va_iast (f := ((V 5) a11)) hx hb hK hP hD hS i4 1 hi4 rfl (inbV hi19) dX11_notePair_19 (fun H locs hP2 hD2 hS => ?_)
    obtain ⟨m19, w5, em19, hP, hD, hW⟩ : ∃ (z : Nat → Nat → Int32) (w : va_W), z = (va_up (V 5) a11 (upd ((V 5) a11) (Int32.toNatClampNeg ((G 233) this)) p0)) ∧ va_P (dC, dI) vwCl w H ∧ va_D A w ∧ LW w ad kk kd ln G P U (va_up V 5 z) X O := ⟨_, _, rfl, hP2, hD2, hW.setV hD hi4 (by rw [hk_a11]; decide) 5 (upd ((V 5) a11) (Int32.toNatClampNeg ((G 233) this)) p0) (by rw [hk_a11]; rfl)⟩
    replace hr := vlS hr m19 em19
    clear em19
    refine lv_aload_n hx hb dX11_notePair_20 rfl (lv_at hl 0 rfl) ?_
    refine lv_dup hx hb dX11_notePair_21 rfl ?_
    obtain ⟨i6, hi6⟩ := hW.o11 hk_this
    refine va_get (D := (dC, dI)) (ci := 11) (v := .int ((G 233) this)) (C := RX11) (T := TX11) (N := 17) hx hb hts inX11 hown hK hP i6 hi6 rfl 13 (by decide) (hts (.fieldLink RX11 81 "SpellTurner" "pairCount" "I") ic_121) (fun _ h9 => h9) rfl dX11_notePair_22 ?_
    refine lv_iconst (v := 1) hx hb dX11_notePair_25 (by decide +kernel) ?_
    refine lv_iadd hx hb dX11_notePair_26 ?_
    refine lv_topi (fun x27 ex27 => ?_)
    replace hr := vlS hr x27 ex27
    clear ex27
    obtain ⟨i7, hi7⟩ := hW.o11 hk_this
    refine va_put (D := (dC, dI)) (ci := 11) (v := .int x27) (ty := .int) (C := RX11) (T := TX11) (N := 17) hx hb hts inX11 tyX11 tyX11_ok nmX11 hown hK hP hD hS i7 hi7 rfl 13 (by decide) (hts (.fieldLink RX11 81 "SpellTurner" "pairCount" "I") ic_121) (fun _ h9 => h9) rfl (by decide +kernel) rfl rfl (Nat.le_of_ble_eq_true rfl) dX11_notePair_27 (fun H locs hP2 hD2 hS => ?_)
    obtain ⟨m27, w8, em27, hP, hD, hW⟩ : ∃ (z : Nat → Int32) (w : va_W), z = (va_up (G 233) this x27) ∧ va_P (dC, dI) vwCl w H ∧ va_D A w ∧ LW w ad kk kd ln (va_up G 233 z) P U (va_up V 5 m19) X O := ⟨_, _, rfl, hP2, hD2, hW.setG hD hi7 (by rw [hk_this]; decide) 233 x27 (by rw [hk_this]; rfl)⟩
    replace hr := vlS hr m27 em27
    clear em27
    exact Jj30 m27 m19 w8 H _ ls hr hW hT hP hD hS (lv_sub hl [] rfl)
set_option maxHeartbeats 4000000 in
set_option maxRecDepth 100000 in
theorem m_X11_notePair (l : Launch) (dC : Nat → ClassId) (dI : Nat → Nat → Nat) (kk : Nat → ClassId) (ad : Nat → Nat) (sz : Nat) (ws : va_W) (G : Nat → Nat → Int32) (P : Nat → Nat → Option Nat) (U : Nat → Nat → Int64) (V : Nat → Nat → Nat → Int32) (X : Nat → Nat → Nat → Int64) (O : Nat → Nat → Nat → Option Nat) (kd : Nat → Nat) (ln : Nat → Nat) (cnt : Nat) (this : Nat) (p0 : Int32) (hk_this : kd this = 12) (hW : LW ws ad kk kd ln G P U V X O) (hT : TYP kd P O (V 0) cnt) (c_G233 : Nat → Int32) (c_V5 : Nat → Nat → Int32) (hr : f_X11_notePair G P U V X O kd ln cnt this p0 = some (c_G233, c_V5)) : Met l yX11_notePair vmX11_notePair ({ frames := 2, cells := 0, slots := 0, locals := 60 } : Room) (va_Pc [.ref (ad this), .int p0] (fun U => U.heap.size = sz ∧ va_P (dC, dI) vwCl ws U.heap ∧ va_K (dC, dI) vwCl (cT kk) U ∧ va_D (fun _ => True) ws)) (va_Qv (fun w => LW w ad kk kd ln (va_up G 233 c_G233) P U (va_up V 5 c_V5) X O ∧ TYP kd P O (V 0) cnt) (fun w t => va_P (dC, dI) vwCl w t.heap ∧ va_K (dC, dI) vwCl (cT kk) t ∧ va_D (va_A ws sz) w) (va_A ws sz)) 0 0 (va_A ws sz) := by
  refine Met.ofW (cc := cX11_notePair) (maxL := 2) (ret := none) (by decide) rfl ?_
  intro p e s m args below meth c s₁ B hml hv
  obtain ⟨rfl, hsz, hP, hK, hD0⟩ := hv
  have hx := B.exec
  have hb := B.bytes
  have hrt := B.returns
  have hts := atoms_spec (ws := vmX11_notePair) B.pre
  have hown : s.vm.findClass RX11 = some m.cls := findClass_of_methodNamed B.named
  subst hsz
  have hD := hD0.self (sz := s.heap.size)
  generalize hAe : va_A ws s.heap.size = A at hD ⊢
  have hA : ∀ q : Nat, s.heap.size ≤ q → A q := fun q h => by rw [← hAe]; exact Or.inr h
  have hS : va_S A s.heap s.heap [] := va_S.rf
  have hl := lv_entry ([.ref (ad this), .int p0]) (n := 2) (Nat.le_of_ble_eq_true rfl)
  rw [lg_entry_eq]
  generalize (lg_sl ([.ref (ad this), .int p0]) ++ List.replicate (2 - (lg_sl ([.ref (ad this), .int p0])).length) Slot.unset).toArray = ls at hl ⊢
  exact bm_X11_notePair this p0 hk_this c_G233 c_V5 hr hx hb hml hown hts hA hK hW hT hP hD hS hl (fun pc ls c_G233z c_V5z ws H locs he hd hW hT hP hD hS => by cases he; exact W.vret hx hb hrt (fun t ht hW9 => ⟨⟨ws, rfl, ⟨hW, hT⟩, by rw [ht]; exact hP, va_K.moved hW9.alike hK, hD⟩, hS.F ht⟩) hS.2.2 hd)
set_option maxHeartbeats 4000000 in
set_option maxRecDepth 100000 in
theorem bm_X11_old {p : Program} {l : Launch} {e : Env} {s : State} {m : MethodId} {args : Array Value} {below : List Frame} {meth : Method} {c : Code} {Q : State → Prop} {A : Nat → Prop} {dC : Nat → ClassId} {dI : Nat → Nat → Nat} {kk : Nat → ClassId} {ad : Nat → Nat} {ws : va_W} {G : Nat → Nat → Int32} {P : Nat → Nat → Option Nat} {U : Nat → Nat → Int64} {V : Nat → Nat → Nat → Int32} {X : Nat → Nat → Nat → Int64} {O : Nat → Nat → Nat → Option Nat} {kd : Nat → Nat} {ln : Nat → Nat} {cnt : Nat} {H : Heap} {locs : List Loc} {ls : Array Slot} (this : Nat) (p0 : Int32) (hk_this : kd this = 12) (r : Int32) (hr : f_X11_old G P U V X O kd ln cnt this p0 = some r) (hx : p.tables.exec = Jvm.exec) (hb : c.code = cX11_old) (hml : c.maxLocals = 2) (hown : s.vm.findClass RX11 = some m.cls) (hts : ∀ w ∈ vmX11_old, w.before args s = true) (hA : ∀ q : Nat, s.heap.size ≤ q → A q) (hK : va_K (dC, dI) vwCl (cT kk) s) (hW : LW ws ad kk kd ln G P U V X O) (hT : TYP kd P O (V 0) cnt) (hP : va_P (dC, dI) vwCl ws H) (hD : va_D A ws) (hS : va_S A s.heap H locs) (hl : lv_has ls 2 [(0, .ref (ad this)), (1, .int p0)])
    (K : ∀ (pc : Nat) (ls : Array Slot) (rz : Int32) (ws : va_W) (H : Heap) (locs : List Loc), some rz = some r → decode cX11_old pc = .ok (.ireturn, 1) → LW ws ad kk kd ln G P U V X O → TYP kd P O (V 0) cnt → va_P (dC, dI) vwCl ws H → va_D A ws → va_S A s.heap H locs → W p l e ({ frames := 2, cells := 0, slots := 0, locals := 60 } : Room) s m args below meth c H locs 0 0 Q (F0 m pc ls [.int rz])) : W p l e ({ frames := 2, cells := 0, slots := 0, locals := 60 } : Room) s m args below meth c H locs 0 0 Q (F0 m 0 ls []) := by
  unfold f_X11_old at hr
  refine lv_iload_n hx hb dX11_old_0 rfl (lv_at hl 1 rfl) ?_
  replace hr := jnS hr
  obtain ⟨j22, hj22, hr⟩ := hr
  have Jj22 : ∀ (t22_0 : Int32) (ws : va_W) (H : Heap) (locs : List Loc) (ls : Array Slot), j22 t22_0 = some r → LW ws ad kk kd ln G P U V X O → TYP kd P O (V 0) cnt → va_P (dC, dI) vwCl ws H → va_D A ws → va_S A s.heap H locs → lv_has ls 2 [] → W p l e ({ frames := 2, cells := 0, slots := 0, locals := 60 } : Room) s m args below meth c H locs 0 0 Q (F0 m 22 ls [.int t22_0]) := by
    intro t22_0 ws H locs ls hr hW hT hP hD hS hl
    rw [hj22] at hr
    exact K 22 ls _ ws H _ hr dX11_old_22 hW hT hP hD hS
  replace hr := jnS hr
  obtain ⟨j12, hj12, hr⟩ := hr
  have Jj12 : ∀ (ws : va_W) (H : Heap) (locs : List Loc) (ls : Array Slot), j12 () = some r → LW ws ad kk kd ln G P U V X O → TYP kd P O (V 0) cnt → va_P (dC, dI) vwCl ws H → va_D A ws → va_S A s.heap H locs → lv_has ls 2 [] → W p l e ({ frames := 2, cells := 0, slots := 0, locals := 60 } : Room) s m args below meth c H locs 0 0 Q (F0 m 12 ls []) := by
    intro ws H locs ls hr hW hT hP hD hS hl
    rw [hj12] at hr
    refine lv_iconst (v := (-1)) hx hb dX11_old_12 (by decide +kernel) ?_
    refine lv_goto (tgt := 22) hx hb dX11_old_13 (by decide) ?_
    exact Jj22 (-1) ws H _ ls hr hW hT hP hD hS (lv_sub hl [] rfl)
  refine lv_if_lt (tgt := 12) hx hb dX11_old_1 (by decide) (fun c1 => ?_) (fun c1 => ?_)
  · replace hr := iteT c1 hr
    exact Jj12 ws H _ ls hr hW hT hP hD hS (lv_sub hl [] rfl)
  · replace hr := iteF c1 hr
    refine lv_iload_n hx hb dX11_old_4 rfl (lv_at hl 1 rfl) ?_
    refine lv_aload_n hx hb dX11_old_5 rfl (lv_at hl 0 rfl) ?_
    obtain ⟨i1, hi1⟩ := hW.o11 hk_this
    refine va_get (D := (dC, dI)) (ci := 11) (v := .int ((G 231) this)) (C := RX11) (T := TX11) (N := 17) hx hb hts inX11 hown hK hP i1 hi1 rfl 11 (by decide) (hts (.fieldLink RX11 75 "SpellTurner" "ownerCount" "I") ic_158) (fun _ h9 => h9) rfl dX11_old_6 ?_
    refine lv_icmp_lt (tgt := 16) hx hb dX11_old_9 (by decide) (fun c9 => ?_) (fun c9 => ?_)
    · replace hr := iteT c9 hr
      refine lv_aload_n hx hb dX11_old_16 rfl (lv_at hl 0 rfl) ?_
      obtain ⟨i2, hi2⟩ := hW.o11 hk_this
      replace hr := nnS hr
      obtain ⟨a17, hn17, hr⟩ := hr
      have hk_a17 : kd a17 = 104 := hT.1 230 _ _ hn17
      refine va_get (D := (dC, dI)) (ci := 11) (v := .ref (ad a17)) (C := RX11) (T := TX11) (N := 17) hx hb hts inX11 hown hK hP i2 hi2 rfl 10 (by decide) (hts (.fieldLink RX11 71 "SpellTurner" "owners" "[I") ic_159) (fun _ h9 => h9) (congrArg (fun o => some (va_re ad o)) hn17) dX11_old_17 ?_
      refine lv_iload_n hx hb dX11_old_20 rfl (lv_at hl 1 rfl) ?_
      obtain ⟨i3, hi3⟩ := hW.v4 hk_a17
      replace hr := iteS hr
      obtain ⟨hi21, hr⟩ := hr
      refine va_iald (f := ((V 4) a17)) hx hb hK hP i3 1 hi3 rfl (inbV hi21) dX11_old_21 ?_
      exact Jj22 (((V 4) a17) (Int32.toNatClampNeg p0)) ws H _ ls hr hW hT hP hD hS (lv_sub hl [] rfl)
    · replace hr := iteF c9 hr
      exact Jj12 ws H _ ls hr hW hT hP hD hS (lv_sub hl [] rfl)
set_option maxHeartbeats 4000000 in
set_option maxRecDepth 100000 in
theorem m_X11_old (l : Launch) (dC : Nat → ClassId) (dI : Nat → Nat → Nat) (kk : Nat → ClassId) (ad : Nat → Nat) (sz : Nat) (ws : va_W) (G : Nat → Nat → Int32) (P : Nat → Nat → Option Nat) (U : Nat → Nat → Int64) (V : Nat → Nat → Nat → Int32) (X : Nat → Nat → Nat → Int64) (O : Nat → Nat → Nat → Option Nat) (kd : Nat → Nat) (ln : Nat → Nat) (cnt : Nat) (this : Nat) (p0 : Int32) (hk_this : kd this = 12) (hW : LW ws ad kk kd ln G P U V X O) (hT : TYP kd P O (V 0) cnt) (r : Int32) (hr : f_X11_old G P U V X O kd ln cnt this p0 = some r) : Met l yX11_old vmX11_old ({ frames := 2, cells := 0, slots := 0, locals := 60 } : Room) (va_Pc [.ref (ad this), .int p0] (fun U => U.heap.size = sz ∧ va_P (dC, dI) vwCl ws U.heap ∧ va_K (dC, dI) vwCl (cT kk) U ∧ va_D (fun _ => True) ws)) (va_Qi (fun (rz : Int32) (w : va_W) => rz = r ∧ LW w ad kk kd ln G P U V X O ∧ TYP kd P O (V 0) cnt) (fun w t => va_P (dC, dI) vwCl w t.heap ∧ va_K (dC, dI) vwCl (cT kk) t ∧ va_D (va_A ws sz) w) (va_A ws sz)) 0 0 (va_A ws sz) := by
  refine Met.ofW (cc := cX11_old) (maxL := 2) (ret := (some .int)) (by decide) rfl ?_
  intro p e s m args below meth c s₁ B hml hv
  obtain ⟨rfl, hsz, hP, hK, hD0⟩ := hv
  have hx := B.exec
  have hb := B.bytes
  have hrt := B.returns
  have hts := atoms_spec (ws := vmX11_old) B.pre
  have hown : s.vm.findClass RX11 = some m.cls := findClass_of_methodNamed B.named
  subst hsz
  have hD := hD0.self (sz := s.heap.size)
  generalize hAe : va_A ws s.heap.size = A at hD ⊢
  have hA : ∀ q : Nat, s.heap.size ≤ q → A q := fun q h => by rw [← hAe]; exact Or.inr h
  have hS : va_S A s.heap s.heap [] := va_S.rf
  have hl := lv_entry ([.ref (ad this), .int p0]) (n := 2) (Nat.le_of_ble_eq_true rfl)
  rw [lg_entry_eq]
  generalize (lg_sl ([.ref (ad this), .int p0]) ++ List.replicate (2 - (lg_sl ([.ref (ad this), .int p0])).length) Slot.unset).toArray = ls at hl ⊢
  exact bm_X11_old this p0 hk_this r hr hx hb hml hown hts hA hK hW hT hP hD hS hl (fun pc ls rz ws H locs he hd hW hT hP hD hS => by cases he; exact W.iret (v := r) hx hb hrt (fun t ht hW9 => ⟨⟨r, ws, rfl, ⟨rfl, hW, hT⟩, by rw [ht]; exact hP, va_K.moved hW9.alike hK, hD⟩, hS.F ht⟩) hS.2.2 hd)
set_option maxHeartbeats 4000000 in
set_option maxRecDepth 100000 in
theorem bm_X3_pick {p : Program} {l : Launch} {e : Env} {s : State} {m : MethodId} {args : Array Value} {below : List Frame} {meth : Method} {c : Code} {Q : State → Prop} {A : Nat → Prop} {dC : Nat → ClassId} {dI : Nat → Nat → Nat} {kk : Nat → ClassId} {ad : Nat → Nat} {ws : va_W} {G : Nat → Nat → Int32} {P : Nat → Nat → Option Nat} {U : Nat → Nat → Int64} {V : Nat → Nat → Nat → Int32} {X : Nat → Nat → Nat → Int64} {O : Nat → Nat → Nat → Option Nat} {kd : Nat → Nat} {ln : Nat → Nat} {cnt : Nat} {H : Heap} {locs : List Loc} {ls : Array Slot} (this : Nat) (p0 : Int32) (p1 : Int32) (hk_this : kd this = 4) (r : Int32) (hr : f_X3_pick G P U V X O kd ln cnt this p0 p1 = some r) (hx : p.tables.exec = Jvm.exec) (hb : c.code = cX3_pick) (hml : c.maxLocals = 3) (hown : s.vm.findClass RX3 = some m.cls) (hts : ∀ w ∈ vmX3_pick, w.before args s = true) (hA : ∀ q : Nat, s.heap.size ≤ q → A q) (hK : va_K (dC, dI) vwCl (cT kk) s) (hW : LW ws ad kk kd ln G P U V X O) (hT : TYP kd P O (V 0) cnt) (hP : va_P (dC, dI) vwCl ws H) (hD : va_D A ws) (hS : va_S A s.heap H locs) (hl : lv_has ls 3 [(0, .ref (ad this)), (1, .int p0), (2, .int p1)])
    (K : ∀ (pc : Nat) (ls : Array Slot) (rz : Int32) (ws : va_W) (H : Heap) (locs : List Loc), some rz = some r → decode cX3_pick pc = .ok (.ireturn, 1) → LW ws ad kk kd ln G P U V X O → TYP kd P O (V 0) cnt → va_P (dC, dI) vwCl ws H → va_D A ws → va_S A s.heap H locs → W p l e ({ frames := 2, cells := 0, slots := 0, locals := 60 } : Room) s m args below meth c H locs 0 0 Q (F0 m pc ls [.int rz])) : W p l e ({ frames := 2, cells := 0, slots := 0, locals := 60 } : Room) s m args below meth c H locs 0 0 Q (F0 m 0 ls []) := by
  unfold f_X3_pick at hr
  refine lv_iload_n hx hb dX3_pick_0 rfl (lv_at hl 1 rfl) ?_
  replace hr := jnS hr
  obtain ⟨j26, hj26, hr⟩ := hr
  have Jj26 : ∀ (ws : va_W) (H : Heap) (locs : List Loc) (ls : Array Slot), j26 () = some r → LW ws ad kk kd ln G P U V X O → TYP kd P O (V 0) cnt → va_P (dC, dI) vwCl ws H → va_D A ws → va_S A s.heap H locs → lv_has ls 3 [] → W p l e ({ frames := 2, cells := 0, slots := 0, locals := 60 } : Room) s m args below meth c H locs 0 0 Q (F0 m 26 ls []) := by
    intro ws H locs ls hr hW hT hP hD hS hl
    rw [hj26] at hr
    refine lv_iconst (v := (-1)) hx hb dX3_pick_26 (by decide +kernel) ?_
    exact K 27 ls _ ws H _ hr dX3_pick_27 hW hT hP hD hS
  refine lv_if_lt (tgt := 26) hx hb dX3_pick_1 (by decide) (fun c1 => ?_) (fun c1 => ?_)
  · replace hr := iteT c1 hr
    exact Jj26 ws H _ ls hr hW hT hP hD hS (lv_sub hl [] rfl)
  · replace hr := iteF c1 hr
    refine lv_iload_n hx hb dX3_pick_4 rfl (lv_at hl 1 rfl) ?_
    refine lv_aload_n hx hb dX3_pick_5 rfl (lv_at hl 0 rfl) ?_
    obtain ⟨i1, hi1⟩ := hW.o3 hk_this
    refine va_get (D := (dC, dI)) (ci := 3) (v := .int ((G 60) this)) (C := RX3) (T := TX3) (N := 7) hx hb hts inX3 hown hK hP i1 hi1 rfl 0 (by decide) (hts (.fieldLink RX3 9 "SpellTurner$Partings" "count" "I") ic_161) (fun _ h9 => h9) rfl dX3_pick_6 ?_
    refine lv_icmp_ge (tgt := 26) hx hb dX3_pick_9 (by decide) (fun c9 => ?_) (fun c9 => ?_)
    · replace hr := iteT c9 hr
      exact Jj26 ws H _ ls hr hW hT hP hD hS (lv_sub hl [] rfl)
    · replace hr := iteF c9 hr
      refine lv_iload_n hx hb dX3_pick_12 rfl (lv_at hl 2 rfl) ?_
      refine lv_if_lt (tgt := 26) hx hb dX3_pick_13 (by decide) (fun c13 => ?_) (fun c13 => ?_)
      · replace hr := iteT c13 hr
        exact Jj26 ws H _ ls hr hW hT hP hD hS (lv_sub hl [] rfl)
      · replace hr := iteF c13 hr
        refine lv_iload_n hx hb dX3_pick_16 rfl (lv_at hl 2 rfl) ?_
        refine lv_aload_n hx hb dX3_pick_17 rfl (lv_at hl 0 rfl) ?_
        obtain ⟨i2, hi2⟩ := hW.o3 hk_this
        replace hr := nnS hr
        obtain ⟨a18, hn18, hr⟩ := hr
        have hk_a18 : kd a18 = 102 := hT.1 61 _ _ hn18
        refine va_get (D := (dC, dI)) (ci := 3) (v := .ref (ad a18)) (C := RX3) (T := TX3) (N := 7) hx hb hts inX3 hown hK hP i2 hi2 rfl 1 (by decide) (hts (.fieldLink RX3 15 "SpellTurner$Partings" "sizes" "[I") ic_162) (fun _ h9 => h9) (congrArg (fun o => some (va_re ad o)) hn18) dX3_pick_18 ?_
        refine lv_iload_n hx hb dX3_pick_21 rfl (lv_at hl 1 rfl) ?_
        obtain ⟨i3, hi3⟩ := hW.v2 hk_a18
        replace hr := iteS hr
        obtain ⟨hi22, hr⟩ := hr
        refine va_iald (f := ((V 2) a18)) hx hb hK hP i3 1 hi3 rfl (inbV hi22) dX3_pick_22 ?_
        refine lv_icmp_lt (tgt := 28) hx hb dX3_pick_23 (by decide) (fun c23 => ?_) (fun c23 => ?_)
        · replace hr := iteT c23 hr
          refine lv_aload_n hx hb dX3_pick_28 rfl (lv_at hl 0 rfl) ?_
          obtain ⟨i4, hi4⟩ := hW.o3 hk_this
          replace hr := nnS hr
          obtain ⟨a29, hn29, hr⟩ := hr
          have hk_a29 : kd a29 = 100 := hT.1 62 _ _ hn29
          refine va_get (D := (dC, dI)) (ci := 3) (v := .ref (ad a29)) (C := RX3) (T := TX3) (N := 7) hx hb hts inX3 hown hK hP i4 hi4 rfl 2 (by decide) (hts (.fieldLink RX3 19 "SpellTurner$Partings" "picks" "[B") ic_163) (fun _ h9 => h9) (congrArg (fun o => some (va_re ad o)) hn29) dX3_pick_29 ?_
          refine lv_iload_n hx hb dX3_pick_32 rfl (lv_at hl 1 rfl) ?_
          refine lv_bipush (v := 24) hx hb dX3_pick_33 (by decide +kernel) ?_
          refine lv_imul hx hb dX3_pick_35 ?_
          refine lv_iload_n hx hb dX3_pick_36 rfl (lv_at hl 2 rfl) ?_
          refine lv_iadd hx hb dX3_pick_37 ?_
          obtain ⟨i5, hi5⟩ := hW.v0 hk_a29
          replace hr := iteS hr
          obtain ⟨hi38, hr⟩ := hr
          refine va_bald (f := ((V 0) a29)) hx hb hK hP i5 0 hi5 rfl (inbV hi38) dX3_pick_38 ?_
          exact K 39 ls _ ws H _ hr dX3_pick_39 hW hT hP hD hS
        · replace hr := iteF c23 hr
          exact Jj26 ws H _ ls hr hW hT hP hD hS (lv_sub hl [] rfl)
set_option maxHeartbeats 4000000 in
set_option maxRecDepth 100000 in
theorem m_X3_pick (l : Launch) (dC : Nat → ClassId) (dI : Nat → Nat → Nat) (kk : Nat → ClassId) (ad : Nat → Nat) (sz : Nat) (ws : va_W) (G : Nat → Nat → Int32) (P : Nat → Nat → Option Nat) (U : Nat → Nat → Int64) (V : Nat → Nat → Nat → Int32) (X : Nat → Nat → Nat → Int64) (O : Nat → Nat → Nat → Option Nat) (kd : Nat → Nat) (ln : Nat → Nat) (cnt : Nat) (this : Nat) (p0 : Int32) (p1 : Int32) (hk_this : kd this = 4) (hW : LW ws ad kk kd ln G P U V X O) (hT : TYP kd P O (V 0) cnt) (r : Int32) (hr : f_X3_pick G P U V X O kd ln cnt this p0 p1 = some r) : Met l yX3_pick vmX3_pick ({ frames := 2, cells := 0, slots := 0, locals := 60 } : Room) (va_Pc [.ref (ad this), .int p0, .int p1] (fun U => U.heap.size = sz ∧ va_P (dC, dI) vwCl ws U.heap ∧ va_K (dC, dI) vwCl (cT kk) U ∧ va_D (fun _ => True) ws)) (va_Qi (fun (rz : Int32) (w : va_W) => rz = r ∧ LW w ad kk kd ln G P U V X O ∧ TYP kd P O (V 0) cnt) (fun w t => va_P (dC, dI) vwCl w t.heap ∧ va_K (dC, dI) vwCl (cT kk) t ∧ va_D (va_A ws sz) w) (va_A ws sz)) 0 0 (va_A ws sz) := by
  refine Met.ofW (cc := cX3_pick) (maxL := 3) (ret := (some .int)) (by decide) rfl ?_
  intro p e s m args below meth c s₁ B hml hv
  obtain ⟨rfl, hsz, hP, hK, hD0⟩ := hv
  have hx := B.exec
  have hb := B.bytes
  have hrt := B.returns
  have hts := atoms_spec (ws := vmX3_pick) B.pre
  have hown : s.vm.findClass RX3 = some m.cls := findClass_of_methodNamed B.named
  subst hsz
  have hD := hD0.self (sz := s.heap.size)
  generalize hAe : va_A ws s.heap.size = A at hD ⊢
  have hA : ∀ q : Nat, s.heap.size ≤ q → A q := fun q h => by rw [← hAe]; exact Or.inr h
  have hS : va_S A s.heap s.heap [] := va_S.rf
  have hl := lv_entry ([.ref (ad this), .int p0, .int p1]) (n := 3) (Nat.le_of_ble_eq_true rfl)
  rw [lg_entry_eq]
  generalize (lg_sl ([.ref (ad this), .int p0, .int p1]) ++ List.replicate (3 - (lg_sl ([.ref (ad this), .int p0, .int p1])).length) Slot.unset).toArray = ls at hl ⊢
  exact bm_X3_pick this p0 p1 hk_this r hr hx hb hml hown hts hA hK hW hT hP hD hS hl (fun pc ls rz ws H locs he hd hW hT hP hD hS => by cases he; exact W.iret (v := r) hx hb hrt (fun t ht hW9 => ⟨⟨r, ws, rfl, ⟨rfl, hW, hT⟩, by rw [ht]; exact hP, va_K.moved hW9.alike hK, hD⟩, hS.F ht⟩) hS.2.2 hd)
set_option maxHeartbeats 4000000 in
set_option maxRecDepth 100000 in
theorem bm_X3_lengthOf {p : Program} {l : Launch} {e : Env} {s : State} {m : MethodId} {args : Array Value} {below : List Frame} {meth : Method} {c : Code} {Q : State → Prop} {A : Nat → Prop} {dC : Nat → ClassId} {dI : Nat → Nat → Nat} {kk : Nat → ClassId} {ad : Nat → Nat} {ws : va_W} {G : Nat → Nat → Int32} {P : Nat → Nat → Option Nat} {U : Nat → Nat → Int64} {V : Nat → Nat → Nat → Int32} {X : Nat → Nat → Nat → Int64} {O : Nat → Nat → Nat → Option Nat} {kd : Nat → Nat} {ln : Nat → Nat} {cnt : Nat} {H : Heap} {locs : List Loc} {ls : Array Slot} (this : Nat) (p0 : Int32) (p1 : Int32) (hk_this : kd this = 4) (r : Int32) (hr : f_X3_lengthOf G P U V X O kd ln cnt this p0 p1 = some r) (hx : p.tables.exec = Jvm.exec) (hb : c.code = cX3_lengthOf) (hml : c.maxLocals = 4) (hown : s.vm.findClass RX3 = some m.cls) (hts : ∀ w ∈ vmX3_lengthOf, w.before args s = true) (hA : ∀ q : Nat, s.heap.size ≤ q → A q) (hK : va_K (dC, dI) vwCl (cT kk) s) (hW : LW ws ad kk kd ln G P U V X O) (hT : TYP kd P O (V 0) cnt) (hP : va_P (dC, dI) vwCl ws H) (hD : va_D A ws) (hS : va_S A s.heap H locs) (hl : lv_has ls 4 [(0, .ref (ad this)), (1, .int p0), (2, .int p1)])
    (K : ∀ (pc : Nat) (ls : Array Slot) (rz : Int32) (ws : va_W) (H : Heap) (locs : List Loc), some rz = some r → decode cX3_lengthOf pc = .ok (.ireturn, 1) → LW ws ad kk kd ln G P U V X O → TYP kd P O (V 0) cnt → va_P (dC, dI) vwCl ws H → va_D A ws → va_S A s.heap H locs → W p l e ({ frames := 3, cells := 0, slots := 0, locals := 82 } : Room) s m args below meth c H locs 0 0 Q (F0 m pc ls [.int rz])) : W p l e ({ frames := 3, cells := 0, slots := 0, locals := 82 } : Room) s m args below meth c H locs 0 0 Q (F0 m 0 ls []) := by
  unfold f_X3_lengthOf at hr
  refine lv_aload_n hx hb dX3_lengthOf_0 rfl (lv_at hl 0 rfl) ?_
  refine lv_iload_n hx hb dX3_lengthOf_1 rfl (lv_at hl 1 rfl) ?_
  refine lv_iload_n hx hb dX3_lengthOf_2 rfl (lv_at hl 2 rfl) ?_
  replace hr := b1S hr
  obtain ⟨r3z, hc3, hr⟩ := hr
  have hFc := fr_all hD hS hA
  obtain ⟨i1, hi1⟩ := hW.o3 hk_this
  refine va_calli (va_runV (As := [.int p0, .int p1]) (rest := []) ⟨hx, hb, hml, hown, hts⟩ (m_X3_pick l dC dI kk ad H.size ws G P U V X O kd ln cnt this p0 p1 hk_this hW hT r3z hc3) (cwV 2 hts gc_RX3_X3_pick_51 rfl rfl rfl (by decide +kernel) ⟨Nat.le_of_ble_eq_true rfl, Nat.le_of_ble_eq_true rfl⟩) ⟨fun a U g mk q => by obtain ⟨q0, q1, qP, qK, qD⟩ := q; exact ⟨q0, q1, qP, va_K.moved (u := U) (U := U.calling g mk a) (Vm.Alike.refl U.vm) qK, qD⟩, va_recv hK hP (ci := 3) (q0 := i1) rfl hi1, fun U hU hW => ⟨rfl, by rw [hU], by rw [hU]; exact hP, va_K.moved hW.alike hK, hD.weaken (fun _ _ _ _ => trivial)⟩⟩ rfl rfl hl.1 rfl (lv_room (Nat.le_of_ble_eq_true rfl)) dX3_lengthOf_3 ⟨Nat.le_of_ble_eq_true rfl, Nat.le_of_ble_eq_true rfl⟩) hS (fun q _ h => hFc q h) hFc (fun r3 w2 t H1 locs ht hvm hw hB hz1 hk1 hS => ?_)
  obtain ⟨hw0, hW, hT⟩ := hw
  replace hw0 : r3 = r3z := hw0
  subst hw0
  obtain ⟨hP1, hK1, hD1⟩ := hB
  rw [ht] at hP1
  obtain ⟨hP, hD⟩ := jn_all (w1 := w2) hFc hP1 hD1
  replace hP : va_P (dC, dI) vwCl w2 H1 := hP
  replace hD : va_D A w2 := hD
  clear hFc hP1 hK1 hD1 hk1 hz1 ht hvm
  generalize H1 = H at hP hS ⊢
  refine lv_istore_n (lv' := [(3, .int r3), (0, .ref (ad this)), (1, .int p0), (2, .int p1)]) hx hb dX3_lengthOf_6 rfl hl (by decide) rfl (fun ls hl => ?_)
  refine lv_iload_n hx hb dX3_lengthOf_7 rfl (lv_at hl 0 rfl) ?_
  replace hr := jnS hr
  obtain ⟨j35, hj35, hr⟩ := hr
  have Jj35 : ∀ (t35_0 : Int32) (ws : va_W) (H : Heap) (locs : List Loc) (ls : Array Slot), j35 t35_0 = some r → LW ws ad kk kd ln G P U V X O → TYP kd P O (V 0) cnt → va_P (dC, dI) vwCl ws H → va_D A ws → va_S A s.heap H locs → lv_has ls 4 [] → W p l e ({ frames := 3, cells := 0, slots := 0, locals := 82 } : Room) s m args below meth c H locs 0 0 Q (F0 m 35 ls [.int t35_0]) := by
    intro t35_0 ws H locs ls hr hW hT hP hD hS hl
    rw [hj35] at hr
    exact K 35 ls _ ws H _ hr dX3_lengthOf_35 hW hT hP hD hS
  replace hr := jnS hr
  obtain ⟨j22, hj22, hr⟩ := hr
  have Jj22 : ∀ (ws : va_W) (H : Heap) (locs : List Loc) (ls : Array Slot), j22 () = some r → LW ws ad kk kd ln G P U V X O → TYP kd P O (V 0) cnt → va_P (dC, dI) vwCl ws H → va_D A ws → va_S A s.heap H locs → lv_has ls 4 [] → W p l e ({ frames := 3, cells := 0, slots := 0, locals := 82 } : Room) s m args below meth c H locs 0 0 Q (F0 m 22 ls []) := by
    intro ws H locs ls hr hW hT hP hD hS hl
    rw [hj22] at hr
    refine lv_iconst (v := (-1)) hx hb dX3_lengthOf_22 (by decide +kernel) ?_
    refine lv_goto (tgt := 35) hx hb dX3_lengthOf_23 (by decide) ?_
    exact Jj35 (-1) ws H _ ls hr hW hT hP hD hS (lv_sub hl [] rfl)
  refine lv_if_lt (tgt := 22) hx hb dX3_lengthOf_8 (by decide) (fun c8 => ?_) (fun c8 => ?_)
  · replace hr := iteT c8 hr
    exact Jj22 w2 H _ ls hr hW hT hP hD hS (lv_sub hl [] rfl)
  · replace hr := iteF c8 hr
    refine lv_iload_n hx hb dX3_lengthOf_11 rfl (lv_at hl 0 rfl) ?_
    refine lv_aload_n hx hb dX3_lengthOf_12 rfl (lv_at hl 1 rfl) ?_
    obtain ⟨i3, hi3⟩ := hW.o3 hk_this
    replace hr := nnS hr
    obtain ⟨a13, hn13, hr⟩ := hr
    have hk_a13 : kd a13 = 11 := hT.1 66 _ _ hn13
    refine va_get (D := (dC, dI)) (ci := 3) (v := .ref (ad a13)) (C := RX3) (T := TX3) (N := 7) hx hb hts inX3 hown hK hP i3 hi3 rfl 6 (by decide) (hts (.fieldLink RX3 38 "SpellTurner$Partings" "parts" "LSpellTurner$WordRow;") ic_169) (fun _ h9 => h9) (congrArg (fun o => some (va_re ad o)) hn13) dX3_lengthOf_13 ?_
    obtain ⟨i4, hi4⟩ := hW.o10 hk_a13
    refine va_get (D := (dC, dI)) (ci := 10) (v := .int ((G 203) a13)) (C := RX10) (T := TX10) (N := 4) hx hb hts inX10 hown hK hP i4 hi4 rfl 3 (by decide) (hts (.fieldLink RX3 42 "SpellTurner$WordRow" "count" "I") ic_170) (fun _ h9 => h9) rfl dX3_lengthOf_16 ?_
    refine lv_icmp_lt (tgt := 26) hx hb dX3_lengthOf_19 (by decide) (fun c19 => ?_) (fun c19 => ?_)
    · replace hr := iteT c19 hr
      refine lv_aload_n hx hb dX3_lengthOf_26 rfl (lv_at hl 1 rfl) ?_
      obtain ⟨i5, hi5⟩ := hW.o3 hk_this
      replace hr := nnS hr
      obtain ⟨a27, hn27, hr⟩ := hr
      have hk_a27 : kd a27 = 11 := hT.1 66 _ _ hn27
      refine va_get (D := (dC, dI)) (ci := 3) (v := .ref (ad a27)) (C := RX3) (T := TX3) (N := 7) hx hb hts inX3 hown hK hP i5 hi5 rfl 6 (by decide) (hts (.fieldLink RX3 38 "SpellTurner$Partings" "parts" "LSpellTurner$WordRow;") ic_169) (fun _ h9 => h9) (congrArg (fun o => some (va_re ad o)) hn27) dX3_lengthOf_27 ?_
      obtain ⟨i6, hi6⟩ := hW.o10 hk_a27
      replace hr := nnS hr
      obtain ⟨a30, hn30, hr⟩ := hr
      have hk_a30 : kd a30 = 101 := hT.1 202 _ _ hn30
      refine va_get (D := (dC, dI)) (ci := 10) (v := .ref (ad a30)) (C := RX10) (T := TX10) (N := 4) hx hb hts inX10 hown hK hP i6 hi6 rfl 2 (by decide) (hts (.fieldLink RX3 55 "SpellTurner$WordRow" "lengths" "[I") ic_171) (fun _ h9 => h9) (congrArg (fun o => some (va_re ad o)) hn30) dX3_lengthOf_30 ?_
      refine lv_iload_n hx hb dX3_lengthOf_33 rfl (lv_at hl 0 rfl) ?_
      obtain ⟨i7, hi7⟩ := hW.v1 hk_a30
      replace hr := iteS hr
      obtain ⟨hi34, hr⟩ := hr
      refine va_iald (f := ((V 1) a30)) hx hb hK hP i7 1 hi7 rfl (inbV hi34) dX3_lengthOf_34 ?_
      exact Jj35 (((V 1) a30) (Int32.toNatClampNeg r3)) w2 H _ ls hr hW hT hP hD hS (lv_sub hl [] rfl)
    · replace hr := iteF c19 hr
      exact Jj22 w2 H _ ls hr hW hT hP hD hS (lv_sub hl [] rfl)
set_option maxHeartbeats 4000000 in
set_option maxRecDepth 100000 in
theorem m_X3_lengthOf (l : Launch) (dC : Nat → ClassId) (dI : Nat → Nat → Nat) (kk : Nat → ClassId) (ad : Nat → Nat) (sz : Nat) (ws : va_W) (G : Nat → Nat → Int32) (P : Nat → Nat → Option Nat) (U : Nat → Nat → Int64) (V : Nat → Nat → Nat → Int32) (X : Nat → Nat → Nat → Int64) (O : Nat → Nat → Nat → Option Nat) (kd : Nat → Nat) (ln : Nat → Nat) (cnt : Nat) (this : Nat) (p0 : Int32) (p1 : Int32) (hk_this : kd this = 4) (hW : LW ws ad kk kd ln G P U V X O) (hT : TYP kd P O (V 0) cnt) (r : Int32) (hr : f_X3_lengthOf G P U V X O kd ln cnt this p0 p1 = some r) : Met l yX3_lengthOf vmX3_lengthOf ({ frames := 3, cells := 0, slots := 0, locals := 82 } : Room) (va_Pc [.ref (ad this), .int p0, .int p1] (fun U => U.heap.size = sz ∧ va_P (dC, dI) vwCl ws U.heap ∧ va_K (dC, dI) vwCl (cT kk) U ∧ va_D (fun _ => True) ws)) (va_Qi (fun (rz : Int32) (w : va_W) => rz = r ∧ LW w ad kk kd ln G P U V X O ∧ TYP kd P O (V 0) cnt) (fun w t => va_P (dC, dI) vwCl w t.heap ∧ va_K (dC, dI) vwCl (cT kk) t ∧ va_D (va_A ws sz) w) (va_A ws sz)) 0 0 (va_A ws sz) := by
  refine Met.ofW (cc := cX3_lengthOf) (maxL := 4) (ret := (some .int)) (by decide) rfl ?_
  intro p e s m args below meth c s₁ B hml hv
  obtain ⟨rfl, hsz, hP, hK, hD0⟩ := hv
  have hx := B.exec
  have hb := B.bytes
  have hrt := B.returns
  have hts := atoms_spec (ws := vmX3_lengthOf) B.pre
  have hown : s.vm.findClass RX3 = some m.cls := findClass_of_methodNamed B.named
  subst hsz
  have hD := hD0.self (sz := s.heap.size)
  generalize hAe : va_A ws s.heap.size = A at hD ⊢
  have hA : ∀ q : Nat, s.heap.size ≤ q → A q := fun q h => by rw [← hAe]; exact Or.inr h
  have hS : va_S A s.heap s.heap [] := va_S.rf
  have hl := lv_entry ([.ref (ad this), .int p0, .int p1]) (n := 4) (Nat.le_of_ble_eq_true rfl)
  rw [lg_entry_eq]
  generalize (lg_sl ([.ref (ad this), .int p0, .int p1]) ++ List.replicate (4 - (lg_sl ([.ref (ad this), .int p0, .int p1])).length) Slot.unset).toArray = ls at hl ⊢
  exact bm_X3_lengthOf this p0 p1 hk_this r hr hx hb hml hown hts hA hK hW hT hP hD hS hl (fun pc ls rz ws H locs he hd hW hT hP hD hS => by cases he; exact W.iret (v := r) hx hb hrt (fun t ht hW9 => ⟨⟨r, ws, rfl, ⟨rfl, hW, hT⟩, by rw [ht]; exact hP, va_K.moved hW9.alike hK, hD⟩, hS.F ht⟩) hS.2.2 hd)
set_option maxHeartbeats 4000000 in
set_option maxRecDepth 100000 in
theorem bm_X11_parting {p : Program} {l : Launch} {e : Env} {s : State} {m : MethodId} {args : Array Value} {below : List Frame} {meth : Method} {c : Code} {Q : State → Prop} {A : Nat → Prop} {dC : Nat → ClassId} {dI : Nat → Nat → Nat} {kk : Nat → ClassId} {ad : Nat → Nat} {ws : va_W} {G : Nat → Nat → Int32} {P : Nat → Nat → Option Nat} {U : Nat → Nat → Int64} {V : Nat → Nat → Nat → Int32} {X : Nat → Nat → Nat → Int64} {O : Nat → Nat → Nat → Option Nat} {kd : Nat → Nat} {ln : Nat → Nat} {cnt : Nat} {H : Heap} {locs : List Loc} {ls : Array Slot} (this : Nat) (p0 : Int32) (p1 : Int32) (hk_this : kd this = 12) (r : Int32) (hr : f_X11_parting G P U V X O kd ln cnt this p0 p1 = some r) (hx : p.tables.exec = Jvm.exec) (hb : c.code = cX11_parting) (hml : c.maxLocals = 3) (hown : s.vm.findClass RX11 = some m.cls) (hts : ∀ w ∈ vmX11_parting, w.before args s = true) (hA : ∀ q : Nat, s.heap.size ≤ q → A q) (hK : va_K (dC, dI) vwCl (cT kk) s) (hW : LW ws ad kk kd ln G P U V X O) (hT : TYP kd P O (V 0) cnt) (hP : va_P (dC, dI) vwCl ws H) (hD : va_D A ws) (hS : va_S A s.heap H locs) (hl : lv_has ls 3 [(0, .ref (ad this)), (1, .int p0), (2, .int p1)])
    (K : ∀ (pc : Nat) (ls : Array Slot) (rz : Int32) (ws : va_W) (H : Heap) (locs : List Loc), some rz = some r → decode cX11_parting pc = .ok (.ireturn, 1) → LW ws ad kk kd ln G P U V X O → TYP kd P O (V 0) cnt → va_P (dC, dI) vwCl ws H → va_D A ws → va_S A s.heap H locs → W p l e ({ frames := 4, cells := 0, slots := 0, locals := 105 } : Room) s m args below meth c H locs 0 0 Q (F0 m pc ls [.int rz])) : W p l e ({ frames := 4, cells := 0, slots := 0, locals := 105 } : Room) s m args below meth c H locs 0 0 Q (F0 m 0 ls []) := by
  unfold f_X11_parting at hr
  refine lv_iload_n hx hb dX11_parting_0 rfl (lv_at hl 1 rfl) ?_
  replace hr := jnS hr
  obtain ⟨j19, hj19, hr⟩ := hr
  have Jj19 : ∀ (ws : va_W) (H : Heap) (locs : List Loc) (ls : Array Slot), j19 () = some r → LW ws ad kk kd ln G P U V X O → TYP kd P O (V 0) cnt → va_P (dC, dI) vwCl ws H → va_D A ws → va_S A s.heap H locs → lv_has ls 3 [] → W p l e ({ frames := 4, cells := 0, slots := 0, locals := 105 } : Room) s m args below meth c H locs 0 0 Q (F0 m 19 ls []) := by
    intro ws H locs ls hr hW hT hP hD hS hl
    rw [hj19] at hr
    refine lv_iconst (v := (-1)) hx hb dX11_parting_19 (by decide +kernel) ?_
    exact K 20 ls _ ws H _ hr dX11_parting_20 hW hT hP hD hS
  refine lv_if_lt (tgt := 19) hx hb dX11_parting_1 (by decide) (fun c1 => ?_) (fun c1 => ?_)
  · replace hr := iteT c1 hr
    exact Jj19 ws H _ ls hr hW hT hP hD hS (lv_sub hl [] rfl)
  · replace hr := iteF c1 hr
    refine lv_iload_n hx hb dX11_parting_4 rfl (lv_at hl 1 rfl) ?_
    refine lv_aload_n hx hb dX11_parting_5 rfl (lv_at hl 0 rfl) ?_
    obtain ⟨i1, hi1⟩ := hW.o11 hk_this
    replace hr := nnS hr
    obtain ⟨a6, hn6, hr⟩ := hr
    have hk_a6 : kd a6 = 4 := hT.1 228 _ _ hn6
    refine va_get (D := (dC, dI)) (ci := 11) (v := .ref (ad a6)) (C := RX11) (T := TX11) (N := 17) hx hb hts inX11 hown hK hP i1 hi1 rfl 8 (by decide) (hts (.fieldLink RX11 60 "SpellTurner" "latestPartings" "LSpellTurner$Partings;") ic_173) (fun _ h9 => h9) (congrArg (fun o => some (va_re ad o)) hn6) dX11_parting_6 ?_
    obtain ⟨i2, hi2⟩ := hW.o3 hk_a6
    refine va_get (D := (dC, dI)) (ci := 3) (v := .int ((G 60) a6)) (C := RX3) (T := TX3) (N := 7) hx hb hts inX3 hown hK hP i2 hi2 rfl 0 (by decide) (hts (.fieldLink RX11 190 "SpellTurner$Partings" "count" "I") ic_174) (fun _ h9 => h9) rfl dX11_parting_9 ?_
    refine lv_icmp_ge (tgt := 19) hx hb dX11_parting_12 (by decide) (fun c12 => ?_) (fun c12 => ?_)
    · replace hr := iteT c12 hr
      exact Jj19 ws H _ ls hr hW hT hP hD hS (lv_sub hl [] rfl)
    · replace hr := iteF c12 hr
      refine lv_iload_n hx hb dX11_parting_15 rfl (lv_at hl 2 rfl) ?_
      refine lv_if_ge (tgt := 21) hx hb dX11_parting_16 (by decide) (fun c16 => ?_) (fun c16 => ?_)
      · replace hr := iteT c16 hr
        refine lv_iload_n hx hb dX11_parting_21 rfl (lv_at hl 2 rfl) ?_
        replace hr := jnS hr
        obtain ⟨j48, hj48, hr⟩ := hr
        have Jj48 : ∀ (t48_0 : Int32) (ws : va_W) (H : Heap) (locs : List Loc) (ls : Array Slot), j48 t48_0 = some r → LW ws ad kk kd ln G P U V X O → TYP kd P O (V 0) cnt → va_P (dC, dI) vwCl ws H → va_D A ws → va_S A s.heap H locs → lv_has ls 3 [] → W p l e ({ frames := 4, cells := 0, slots := 0, locals := 105 } : Room) s m args below meth c H locs 0 0 Q (F0 m 48 ls [.int t48_0]) := by
          intro t48_0 ws H locs ls hr hW hT hP hD hS hl
          rw [hj48] at hr
          exact K 48 ls _ ws H _ hr dX11_parting_48 hW hT hP hD hS
        refine lv_if_ne (tgt := 37) hx hb dX11_parting_22 (by decide) (fun c22 => ?_) (fun c22 => ?_)
        · replace hr := iteF c22 hr
          refine lv_aload_n hx hb dX11_parting_37 rfl (lv_at hl 0 rfl) ?_
          obtain ⟨i3, hi3⟩ := hW.o11 hk_this
          replace hr := nnS hr
          obtain ⟨a38, hn38, hr⟩ := hr
          have hk_a38 : kd a38 = 4 := hT.1 228 _ _ hn38
          refine va_get (D := (dC, dI)) (ci := 11) (v := .ref (ad a38)) (C := RX11) (T := TX11) (N := 17) hx hb hts inX11 hown hK hP i3 hi3 rfl 8 (by decide) (hts (.fieldLink RX11 60 "SpellTurner" "latestPartings" "LSpellTurner$Partings;") ic_173) (fun _ h9 => h9) (congrArg (fun o => some (va_re ad o)) hn38) dX11_parting_38 ?_
          refine lv_iload_n hx hb dX11_parting_41 rfl (lv_at hl 1 rfl) ?_
          refine lv_iload_n hx hb dX11_parting_42 rfl (lv_at hl 2 rfl) ?_
          refine lv_iconst (v := 1) hx hb dX11_parting_43 (by decide +kernel) ?_
          refine lv_isub hx hb dX11_parting_44 ?_
          replace hr := b1S hr
          obtain ⟨r45z, hc45, hr⟩ := hr
          have hFc := fr_all hD hS hA
          obtain ⟨i4, hi4⟩ := hW.o3 hk_a38
          refine va_calli (va_runV (As := [.int p0, .int (p1 - 1)]) (rest := []) ⟨hx, hb, hml, hown, hts⟩ (m_X3_lengthOf l dC dI kk ad H.size ws G P U V X O kd ln cnt a38 p0 (p1 - 1) hk_a38 hW hT r45z hc45) (cwV 2 hts gc_RX11_X3_lengthOf_194 rfl rfl rfl (by decide +kernel) ⟨Nat.le_of_ble_eq_true rfl, Nat.le_of_ble_eq_true rfl⟩) ⟨fun a U g mk q => by obtain ⟨q0, q1, qP, qK, qD⟩ := q; exact ⟨q0, q1, qP, va_K.moved (u := U) (U := U.calling g mk a) (Vm.Alike.refl U.vm) qK, qD⟩, va_recv hK hP (ci := 3) (q0 := i4) rfl hi4, fun U hU hW => ⟨rfl, by rw [hU], by rw [hU]; exact hP, va_K.moved hW.alike hK, hD.weaken (fun _ _ _ _ => trivial)⟩⟩ rfl rfl hl.1 rfl (lv_room (Nat.le_of_ble_eq_true rfl)) dX11_parting_45 ⟨Nat.le_of_ble_eq_true rfl, Nat.le_of_ble_eq_true rfl⟩) hS (fun q _ h => hFc q h) hFc (fun r45 w5 t H1 locs ht hvm hw hB hz1 hk1 hS => ?_)
          obtain ⟨hw0, hW, hT⟩ := hw
          replace hw0 : r45 = r45z := hw0
          subst hw0
          obtain ⟨hP1, hK1, hD1⟩ := hB
          rw [ht] at hP1
          obtain ⟨hP, hD⟩ := jn_all (w1 := w5) hFc hP1 hD1
          replace hP : va_P (dC, dI) vwCl w5 H1 := hP
          replace hD : va_D A w5 := hD
          clear hFc hP1 hK1 hD1 hk1 hz1 ht hvm
          generalize H1 = H at hP hS ⊢
          exact Jj48 r45 w5 H _ ls hr hW hT hP hD hS (lv_sub hl [] rfl)
        · replace hr := iteT c22 hr
          refine lv_aload_n hx hb dX11_parting_25 rfl (lv_at hl 0 rfl) ?_
          obtain ⟨i6, hi6⟩ := hW.o11 hk_this
          replace hr := nnS hr
          obtain ⟨a26, hn26, hr⟩ := hr
          have hk_a26 : kd a26 = 4 := hT.1 228 _ _ hn26
          refine va_get (D := (dC, dI)) (ci := 11) (v := .ref (ad a26)) (C := RX11) (T := TX11) (N := 17) hx hb hts inX11 hown hK hP i6 hi6 rfl 8 (by decide) (hts (.fieldLink RX11 60 "SpellTurner" "latestPartings" "LSpellTurner$Partings;") ic_173) (fun _ h9 => h9) (congrArg (fun o => some (va_re ad o)) hn26) dX11_parting_26 ?_
          obtain ⟨i7, hi7⟩ := hW.o3 hk_a26
          replace hr := nnS hr
          obtain ⟨a29, hn29, hr⟩ := hr
          have hk_a29 : kd a29 = 102 := hT.1 61 _ _ hn29
          refine va_get (D := (dC, dI)) (ci := 3) (v := .ref (ad a29)) (C := RX3) (T := TX3) (N := 7) hx hb hts inX3 hown hK hP i7 hi7 rfl 1 (by decide) (hts (.fieldLink RX11 191 "SpellTurner$Partings" "sizes" "[I") ic_178) (fun _ h9 => h9) (congrArg (fun o => some (va_re ad o)) hn29) dX11_parting_29 ?_
          refine lv_iload_n hx hb dX11_parting_32 rfl (lv_at hl 1 rfl) ?_
          obtain ⟨i8, hi8⟩ := hW.v2 hk_a29
          replace hr := iteS hr
          obtain ⟨hi33, hr⟩ := hr
          refine va_iald (f := ((V 2) a29)) hx hb hK hP i8 1 hi8 rfl (inbV hi33) dX11_parting_33 ?_
          refine lv_goto (tgt := 48) hx hb dX11_parting_34 (by decide) ?_
          exact Jj48 (((V 2) a29) (Int32.toNatClampNeg p0)) ws H _ ls hr hW hT hP hD hS (lv_sub hl [] rfl)
      · replace hr := iteF c16 hr
        exact Jj19 ws H _ ls hr hW hT hP hD hS (lv_sub hl [] rfl)
set_option maxHeartbeats 4000000 in
set_option maxRecDepth 100000 in
theorem m_X11_parting (l : Launch) (dC : Nat → ClassId) (dI : Nat → Nat → Nat) (kk : Nat → ClassId) (ad : Nat → Nat) (sz : Nat) (ws : va_W) (G : Nat → Nat → Int32) (P : Nat → Nat → Option Nat) (U : Nat → Nat → Int64) (V : Nat → Nat → Nat → Int32) (X : Nat → Nat → Nat → Int64) (O : Nat → Nat → Nat → Option Nat) (kd : Nat → Nat) (ln : Nat → Nat) (cnt : Nat) (this : Nat) (p0 : Int32) (p1 : Int32) (hk_this : kd this = 12) (hW : LW ws ad kk kd ln G P U V X O) (hT : TYP kd P O (V 0) cnt) (r : Int32) (hr : f_X11_parting G P U V X O kd ln cnt this p0 p1 = some r) : Met l yX11_parting vmX11_parting ({ frames := 4, cells := 0, slots := 0, locals := 105 } : Room) (va_Pc [.ref (ad this), .int p0, .int p1] (fun U => U.heap.size = sz ∧ va_P (dC, dI) vwCl ws U.heap ∧ va_K (dC, dI) vwCl (cT kk) U ∧ va_D (fun _ => True) ws)) (va_Qi (fun (rz : Int32) (w : va_W) => rz = r ∧ LW w ad kk kd ln G P U V X O ∧ TYP kd P O (V 0) cnt) (fun w t => va_P (dC, dI) vwCl w t.heap ∧ va_K (dC, dI) vwCl (cT kk) t ∧ va_D (va_A ws sz) w) (va_A ws sz)) 0 0 (va_A ws sz) := by
  refine Met.ofW (cc := cX11_parting) (maxL := 3) (ret := (some .int)) (by decide) rfl ?_
  intro p e s m args below meth c s₁ B hml hv
  obtain ⟨rfl, hsz, hP, hK, hD0⟩ := hv
  have hx := B.exec
  have hb := B.bytes
  have hrt := B.returns
  have hts := atoms_spec (ws := vmX11_parting) B.pre
  have hown : s.vm.findClass RX11 = some m.cls := findClass_of_methodNamed B.named
  subst hsz
  have hD := hD0.self (sz := s.heap.size)
  generalize hAe : va_A ws s.heap.size = A at hD ⊢
  have hA : ∀ q : Nat, s.heap.size ≤ q → A q := fun q h => by rw [← hAe]; exact Or.inr h
  have hS : va_S A s.heap s.heap [] := va_S.rf
  have hl := lv_entry ([.ref (ad this), .int p0, .int p1]) (n := 3) (Nat.le_of_ble_eq_true rfl)
  rw [lg_entry_eq]
  generalize (lg_sl ([.ref (ad this), .int p0, .int p1]) ++ List.replicate (3 - (lg_sl ([.ref (ad this), .int p0, .int p1])).length) Slot.unset).toArray = ls at hl ⊢
  exact bm_X11_parting this p0 p1 hk_this r hr hx hb hml hown hts hA hK hW hT hP hD hS hl (fun pc ls rz ws H locs he hd hW hT hP hD hS => by cases he; exact W.iret (v := r) hx hb hrt (fun t ht hW9 => ⟨⟨r, ws, rfl, ⟨rfl, hW, hT⟩, by rw [ht]; exact hP, va_K.moved hW9.alike hK, hD⟩, hS.F ht⟩) hS.2.2 hd)
set_option maxHeartbeats 4000000 in
set_option maxRecDepth 100000 in
theorem bm_X11_word {p : Program} {l : Launch} {e : Env} {s : State} {m : MethodId} {args : Array Value} {below : List Frame} {meth : Method} {c : Code} {Q : State → Prop} {A : Nat → Prop} {dC : Nat → ClassId} {dI : Nat → Nat → Nat} {kk : Nat → ClassId} {ad : Nat → Nat} {ws : va_W} {G : Nat → Nat → Int32} {P : Nat → Nat → Option Nat} {U : Nat → Nat → Int64} {V : Nat → Nat → Nat → Int32} {X : Nat → Nat → Nat → Int64} {O : Nat → Nat → Nat → Option Nat} {kd : Nat → Nat} {ln : Nat → Nat} {cnt : Nat} {H : Heap} {locs : List Loc} {ls : Array Slot} (this : Nat) (p0 : Int32) (p1 : Int32) (hk_this : kd this = 12) (r : Int32) (hr : f_X11_word G P U V X O kd ln cnt this p0 p1 = some r) (hx : p.tables.exec = Jvm.exec) (hb : c.code = cX11_word) (hml : c.maxLocals = 3) (hown : s.vm.findClass RX11 = some m.cls) (hts : ∀ w ∈ vmX11_word, w.before args s = true) (hA : ∀ q : Nat, s.heap.size ≤ q → A q) (hK : va_K (dC, dI) vwCl (cT kk) s) (hW : LW ws ad kk kd ln G P U V X O) (hT : TYP kd P O (V 0) cnt) (hP : va_P (dC, dI) vwCl ws H) (hD : va_D A ws) (hS : va_S A s.heap H locs) (hl : lv_has ls 3 [(0, .ref (ad this)), (1, .int p0), (2, .int p1)])
    (K : ∀ (pc : Nat) (ls : Array Slot) (rz : Int32) (ws : va_W) (H : Heap) (locs : List Loc), some rz = some r → decode cX11_word pc = .ok (.ireturn, 1) → LW ws ad kk kd ln G P U V X O → TYP kd P O (V 0) cnt → va_P (dC, dI) vwCl ws H → va_D A ws → va_S A s.heap H locs → W p l e ({ frames := 3, cells := 0, slots := 0, locals := 82 } : Room) s m args below meth c H locs 0 0 Q (F0 m pc ls [.int rz])) : W p l e ({ frames := 3, cells := 0, slots := 0, locals := 82 } : Room) s m args below meth c H locs 0 0 Q (F0 m 0 ls []) := by
  unfold f_X11_word at hr
  refine lv_aload_n hx hb dX11_word_0 rfl (lv_at hl 0 rfl) ?_
  obtain ⟨i1, hi1⟩ := hW.o11 hk_this
  replace hr := nnS hr
  obtain ⟨a1, hn1, hr⟩ := hr
  have hk_a1 : kd a1 = 1 := hT.1 229 _ _ hn1
  refine va_get (D := (dC, dI)) (ci := 11) (v := .ref (ad a1)) (C := RX11) (T := TX11) (N := 17) hx hb hts inX11 hown hK hP i1 hi1 rfl 9 (by decide) (hts (.fieldLink RX11 67 "SpellTurner" "book" "LSpellTurner$Book;") ic_106) (fun _ h9 => h9) (congrArg (fun o => some (va_re ad o)) hn1) dX11_word_1 ?_
  obtain ⟨i2, hi2⟩ := hW.o0 hk_a1
  replace hr := nnS hr
  obtain ⟨a4, hn4, hr⟩ := hr
  have hk_a4 : kd a4 = 11 := hT.1 0 _ _ hn4
  refine va_get (D := (dC, dI)) (ci := 0) (v := .ref (ad a4)) (C := RX0) (T := TX0) (N := 6) hx hb hts inX0 hown hK hP i2 hi2 rfl 0 (by decide) (hts (.fieldLink RX11 197 "SpellTurner$Book" "words" "LSpellTurner$WordRow;") ic_124) (fun _ h9 => h9) (congrArg (fun o => some (va_re ad o)) hn4) dX11_word_4 ?_
  refine lv_iload_n hx hb dX11_word_7 rfl (lv_at hl 1 rfl) ?_
  refine lv_iload_n hx hb dX11_word_8 rfl (lv_at hl 2 rfl) ?_
  replace hr := b1S hr
  obtain ⟨r9z, hc9, hr⟩ := hr
  have hFc := fr_all hD hS hA
  obtain ⟨i3, hi3⟩ := hW.o10 hk_a4
  refine va_calli (va_runV (As := [.int p0, .int p1]) (rest := []) ⟨hx, hb, hml, hown, hts⟩ (m_X10_letterAt l dC dI kk ad H.size ws G P U V X O kd ln cnt a4 p0 p1 hk_a4 hW hT r9z hc9) (cwV 2 hts gc_RX11_X10_letterAt_176 rfl rfl rfl (by decide +kernel) ⟨Nat.le_of_ble_eq_true rfl, Nat.le_of_ble_eq_true rfl⟩) ⟨fun a U g mk q => by obtain ⟨q0, q1, qP, qK, qD⟩ := q; exact ⟨q0, q1, qP, va_K.moved (u := U) (U := U.calling g mk a) (Vm.Alike.refl U.vm) qK, qD⟩, va_recv hK hP (ci := 10) (q0 := i3) rfl hi3, fun U hU hW => ⟨rfl, by rw [hU], by rw [hU]; exact hP, va_K.moved hW.alike hK, hD.weaken (fun _ _ _ _ => trivial)⟩⟩ rfl rfl hl.1 rfl (lv_room (Nat.le_of_ble_eq_true rfl)) dX11_word_9 ⟨Nat.le_of_ble_eq_true rfl, Nat.le_of_ble_eq_true rfl⟩) hS (fun q _ h => hFc q h) hFc (fun r9 w4 t H1 locs ht hvm hw hB hz1 hk1 hS => ?_)
  obtain ⟨hw0, hW, hT⟩ := hw
  replace hw0 : r9 = r9z := hw0
  subst hw0
  obtain ⟨hP1, hK1, hD1⟩ := hB
  rw [ht] at hP1
  obtain ⟨hP, hD⟩ := jn_all (w1 := w4) hFc hP1 hD1
  replace hP : va_P (dC, dI) vwCl w4 H1 := hP
  replace hD : va_D A w4 := hD
  clear hFc hP1 hK1 hD1 hk1 hz1 ht hvm
  generalize H1 = H at hP hS ⊢
  exact K 12 ls _ w4 H _ hr dX11_word_12 hW hT hP hD hS
set_option maxHeartbeats 4000000 in
set_option maxRecDepth 100000 in
theorem m_X11_word (l : Launch) (dC : Nat → ClassId) (dI : Nat → Nat → Nat) (kk : Nat → ClassId) (ad : Nat → Nat) (sz : Nat) (ws : va_W) (G : Nat → Nat → Int32) (P : Nat → Nat → Option Nat) (U : Nat → Nat → Int64) (V : Nat → Nat → Nat → Int32) (X : Nat → Nat → Nat → Int64) (O : Nat → Nat → Nat → Option Nat) (kd : Nat → Nat) (ln : Nat → Nat) (cnt : Nat) (this : Nat) (p0 : Int32) (p1 : Int32) (hk_this : kd this = 12) (hW : LW ws ad kk kd ln G P U V X O) (hT : TYP kd P O (V 0) cnt) (r : Int32) (hr : f_X11_word G P U V X O kd ln cnt this p0 p1 = some r) : Met l yX11_word vmX11_word ({ frames := 3, cells := 0, slots := 0, locals := 82 } : Room) (va_Pc [.ref (ad this), .int p0, .int p1] (fun U => U.heap.size = sz ∧ va_P (dC, dI) vwCl ws U.heap ∧ va_K (dC, dI) vwCl (cT kk) U ∧ va_D (fun _ => True) ws)) (va_Qi (fun (rz : Int32) (w : va_W) => rz = r ∧ LW w ad kk kd ln G P U V X O ∧ TYP kd P O (V 0) cnt) (fun w t => va_P (dC, dI) vwCl w t.heap ∧ va_K (dC, dI) vwCl (cT kk) t ∧ va_D (va_A ws sz) w) (va_A ws sz)) 0 0 (va_A ws sz) := by
  refine Met.ofW (cc := cX11_word) (maxL := 3) (ret := (some .int)) (by decide) rfl ?_
  intro p e s m args below meth c s₁ B hml hv
  obtain ⟨rfl, hsz, hP, hK, hD0⟩ := hv
  have hx := B.exec
  have hb := B.bytes
  have hrt := B.returns
  have hts := atoms_spec (ws := vmX11_word) B.pre
  have hown : s.vm.findClass RX11 = some m.cls := findClass_of_methodNamed B.named
  subst hsz
  have hD := hD0.self (sz := s.heap.size)
  generalize hAe : va_A ws s.heap.size = A at hD ⊢
  have hA : ∀ q : Nat, s.heap.size ≤ q → A q := fun q h => by rw [← hAe]; exact Or.inr h
  have hS : va_S A s.heap s.heap [] := va_S.rf
  have hl := lv_entry ([.ref (ad this), .int p0, .int p1]) (n := 3) (Nat.le_of_ble_eq_true rfl)
  rw [lg_entry_eq]
  generalize (lg_sl ([.ref (ad this), .int p0, .int p1]) ++ List.replicate (3 - (lg_sl ([.ref (ad this), .int p0, .int p1])).length) Slot.unset).toArray = ls at hl ⊢
  exact bm_X11_word this p0 p1 hk_this r hr hx hb hml hown hts hA hK hW hT hP hD hS hl (fun pc ls rz ws H locs he hd hW hT hP hD hS => by cases he; exact W.iret (v := r) hx hb hrt (fun t ht hW9 => ⟨⟨r, ws, rfl, ⟨rfl, hW, hT⟩, by rw [ht]; exact hP, va_K.moved hW9.alike hK, hD⟩, hS.F ht⟩) hS.2.2 hd)
set_option maxHeartbeats 4000000 in
set_option maxRecDepth 100000 in
theorem bm_X6_byteAt {p : Program} {l : Launch} {e : Env} {s : State} {m : MethodId} {args : Array Value} {below : List Frame} {meth : Method} {c : Code} {Q : State → Prop} {A : Nat → Prop} {dC : Nat → ClassId} {dI : Nat → Nat → Nat} {kk : Nat → ClassId} {ad : Nat → Nat} {ws : va_W} {G : Nat → Nat → Int32} {P : Nat → Nat → Option Nat} {U : Nat → Nat → Int64} {V : Nat → Nat → Nat → Int32} {X : Nat → Nat → Nat → Int64} {O : Nat → Nat → Nat → Option Nat} {kd : Nat → Nat} {ln : Nat → Nat} {cnt : Nat} {H : Heap} {locs : List Loc} {ls : Array Slot} (this : Nat) (p0 : Int32) (hk_this : kd this = 7) (r : Int32) (hr : f_X6_byteAt G P U V X O kd ln cnt this p0 = some r) (hx : p.tables.exec = Jvm.exec) (hb : c.code = cX6_byteAt) (hml : c.maxLocals = 2) (hown : s.vm.findClass RX6 = some m.cls) (hts : ∀ w ∈ vmX6_byteAt, w.before args s = true) (hA : ∀ q : Nat, s.heap.size ≤ q → A q) (hK : va_K (dC, dI) vwCl (cT kk) s) (hW : LW ws ad kk kd ln G P U V X O) (hT : TYP kd P O (V 0) cnt) (hP : va_P (dC, dI) vwCl ws H) (hD : va_D A ws) (hS : va_S A s.heap H locs) (hl : lv_has ls 2 [(0, .ref (ad this)), (1, .int p0)])
    (K : ∀ (pc : Nat) (ls : Array Slot) (rz : Int32) (ws : va_W) (H : Heap) (locs : List Loc), some rz = some r → decode cX6_byteAt pc = .ok (.ireturn, 1) → LW ws ad kk kd ln G P U V X O → TYP kd P O (V 0) cnt → va_P (dC, dI) vwCl ws H → va_D A ws → va_S A s.heap H locs → W p l e ({ frames := 2, cells := 0, slots := 0, locals := 60 } : Room) s m args below meth c H locs 0 0 Q (F0 m pc ls [.int rz])) : W p l e ({ frames := 2, cells := 0, slots := 0, locals := 60 } : Room) s m args below meth c H locs 0 0 Q (F0 m 0 ls []) := by
  unfold f_X6_byteAt at hr
  refine lv_iload_n hx hb dX6_byteAt_0 rfl (lv_at hl 1 rfl) ?_
  replace hr := jnS hr
  obtain ⟨j26, hj26, hr⟩ := hr
  have Jj26 : ∀ (t26_0 : Int32) (ws : va_W) (H : Heap) (locs : List Loc) (ls : Array Slot), j26 t26_0 = some r → LW ws ad kk kd ln G P U V X O → TYP kd P O (V 0) cnt → va_P (dC, dI) vwCl ws H → va_D A ws → va_S A s.heap H locs → lv_has ls 2 [] → W p l e ({ frames := 2, cells := 0, slots := 0, locals := 60 } : Room) s m args below meth c H locs 0 0 Q (F0 m 26 ls [.int t26_0]) := by
    intro t26_0 ws H locs ls hr hW hT hP hD hS hl
    rw [hj26] at hr
    exact K 26 ls _ ws H _ hr dX6_byteAt_26 hW hT hP hD hS
  replace hr := jnS hr
  obtain ⟨j12, hj12, hr⟩ := hr
  have Jj12 : ∀ (ws : va_W) (H : Heap) (locs : List Loc) (ls : Array Slot), j12 () = some r → LW ws ad kk kd ln G P U V X O → TYP kd P O (V 0) cnt → va_P (dC, dI) vwCl ws H → va_D A ws → va_S A s.heap H locs → lv_has ls 2 [] → W p l e ({ frames := 2, cells := 0, slots := 0, locals := 60 } : Room) s m args below meth c H locs 0 0 Q (F0 m 12 ls []) := by
    intro ws H locs ls hr hW hT hP hD hS hl
    rw [hj12] at hr
    refine lv_iconst (v := (-1)) hx hb dX6_byteAt_12 (by decide +kernel) ?_
    refine lv_goto (tgt := 26) hx hb dX6_byteAt_13 (by decide) ?_
    exact Jj26 (-1) ws H _ ls hr hW hT hP hD hS (lv_sub hl [] rfl)
  refine lv_if_lt (tgt := 12) hx hb dX6_byteAt_1 (by decide) (fun c1 => ?_) (fun c1 => ?_)
  · replace hr := iteT c1 hr
    exact Jj12 ws H _ ls hr hW hT hP hD hS (lv_sub hl [] rfl)
  · replace hr := iteF c1 hr
    refine lv_iload_n hx hb dX6_byteAt_4 rfl (lv_at hl 1 rfl) ?_
    refine lv_aload_n hx hb dX6_byteAt_5 rfl (lv_at hl 0 rfl) ?_
    obtain ⟨i1, hi1⟩ := hW.o6 hk_this
    refine va_get (D := (dC, dI)) (ci := 6) (v := .int ((G 125) this)) (C := RX6) (T := TX6) (N := 9) hx hb hts inX6 hown hK hP i1 hi1 rfl 5 (by decide) (hts (.fieldLink RX6 29 "SpellTurner$Scribe" "toldSize" "I") ic_181) (fun _ h9 => h9) rfl dX6_byteAt_6 ?_
    refine lv_icmp_lt (tgt := 16) hx hb dX6_byteAt_9 (by decide) (fun c9 => ?_) (fun c9 => ?_)
    · replace hr := iteT c9 hr
      refine lv_aload_n hx hb dX6_byteAt_16 rfl (lv_at hl 0 rfl) ?_
      obtain ⟨i2, hi2⟩ := hW.o6 hk_this
      replace hr := nnS hr
      obtain ⟨a17, hn17, hr⟩ := hr
      have hk_a17 : kd a17 = 100 := hT.1 120 _ _ hn17
      refine va_get (D := (dC, dI)) (ci := 6) (v := .ref (ad a17)) (C := RX6) (T := TX6) (N := 9) hx hb hts inX6 hown hK hP i2 hi2 rfl 0 (by decide) (hts (.fieldLink RX6 9 "SpellTurner$Scribe" "told" "[B") ic_182) (fun _ h9 => h9) (congrArg (fun o => some (va_re ad o)) hn17) dX6_byteAt_17 ?_
      refine lv_iload_n hx hb dX6_byteAt_20 rfl (lv_at hl 1 rfl) ?_
      obtain ⟨i3, hi3⟩ := hW.v0 hk_a17
      replace hr := iteS hr
      obtain ⟨hi21, hr⟩ := hr
      refine va_bald (f := ((V 0) a17)) hx hb hK hP i3 0 hi3 rfl (inbV hi21) dX6_byteAt_21 ?_
      refine lv_sipush (v := 255) hx hb dX6_byteAt_22 (by decide +kernel) ?_
      refine lv_iand hx hb dX6_byteAt_25 ?_
      exact Jj26 ((((V 0) a17) (Int32.toNatClampNeg p0)) &&& 255) ws H _ ls hr hW hT hP hD hS (lv_sub hl [] rfl)
    · replace hr := iteF c9 hr
      exact Jj12 ws H _ ls hr hW hT hP hD hS (lv_sub hl [] rfl)
set_option maxHeartbeats 4000000 in
set_option maxRecDepth 100000 in
theorem m_X6_byteAt (l : Launch) (dC : Nat → ClassId) (dI : Nat → Nat → Nat) (kk : Nat → ClassId) (ad : Nat → Nat) (sz : Nat) (ws : va_W) (G : Nat → Nat → Int32) (P : Nat → Nat → Option Nat) (U : Nat → Nat → Int64) (V : Nat → Nat → Nat → Int32) (X : Nat → Nat → Nat → Int64) (O : Nat → Nat → Nat → Option Nat) (kd : Nat → Nat) (ln : Nat → Nat) (cnt : Nat) (this : Nat) (p0 : Int32) (hk_this : kd this = 7) (hW : LW ws ad kk kd ln G P U V X O) (hT : TYP kd P O (V 0) cnt) (r : Int32) (hr : f_X6_byteAt G P U V X O kd ln cnt this p0 = some r) : Met l yX6_byteAt vmX6_byteAt ({ frames := 2, cells := 0, slots := 0, locals := 60 } : Room) (va_Pc [.ref (ad this), .int p0] (fun U => U.heap.size = sz ∧ va_P (dC, dI) vwCl ws U.heap ∧ va_K (dC, dI) vwCl (cT kk) U ∧ va_D (fun _ => True) ws)) (va_Qi (fun (rz : Int32) (w : va_W) => rz = r ∧ LW w ad kk kd ln G P U V X O ∧ TYP kd P O (V 0) cnt) (fun w t => va_P (dC, dI) vwCl w t.heap ∧ va_K (dC, dI) vwCl (cT kk) t ∧ va_D (va_A ws sz) w) (va_A ws sz)) 0 0 (va_A ws sz) := by
  refine Met.ofW (cc := cX6_byteAt) (maxL := 2) (ret := (some .int)) (by decide) rfl ?_
  intro p e s m args below meth c s₁ B hml hv
  obtain ⟨rfl, hsz, hP, hK, hD0⟩ := hv
  have hx := B.exec
  have hb := B.bytes
  have hrt := B.returns
  have hts := atoms_spec (ws := vmX6_byteAt) B.pre
  have hown : s.vm.findClass RX6 = some m.cls := findClass_of_methodNamed B.named
  subst hsz
  have hD := hD0.self (sz := s.heap.size)
  generalize hAe : va_A ws s.heap.size = A at hD ⊢
  have hA : ∀ q : Nat, s.heap.size ≤ q → A q := fun q h => by rw [← hAe]; exact Or.inr h
  have hS : va_S A s.heap s.heap [] := va_S.rf
  have hl := lv_entry ([.ref (ad this), .int p0]) (n := 2) (Nat.le_of_ble_eq_true rfl)
  rw [lg_entry_eq]
  generalize (lg_sl ([.ref (ad this), .int p0]) ++ List.replicate (2 - (lg_sl ([.ref (ad this), .int p0])).length) Slot.unset).toArray = ls at hl ⊢
  exact bm_X6_byteAt this p0 hk_this r hr hx hb hml hown hts hA hK hW hT hP hD hS hl (fun pc ls rz ws H locs he hd hW hT hP hD hS => by cases he; exact W.iret (v := r) hx hb hrt (fun t ht hW9 => ⟨⟨r, ws, rfl, ⟨rfl, hW, hT⟩, by rw [ht]; exact hP, va_K.moved hW9.alike hK, hD⟩, hS.F ht⟩) hS.2.2 hd)
set_option maxHeartbeats 4000000 in
set_option maxRecDepth 100000 in
theorem bm_X11_written {p : Program} {l : Launch} {e : Env} {s : State} {m : MethodId} {args : Array Value} {below : List Frame} {meth : Method} {c : Code} {Q : State → Prop} {A : Nat → Prop} {dC : Nat → ClassId} {dI : Nat → Nat → Nat} {kk : Nat → ClassId} {ad : Nat → Nat} {ws : va_W} {G : Nat → Nat → Int32} {P : Nat → Nat → Option Nat} {U : Nat → Nat → Int64} {V : Nat → Nat → Nat → Int32} {X : Nat → Nat → Nat → Int64} {O : Nat → Nat → Nat → Option Nat} {kd : Nat → Nat} {ln : Nat → Nat} {cnt : Nat} {H : Heap} {locs : List Loc} {ls : Array Slot} (this : Nat) (p0 : Int32) (hk_this : kd this = 12) (r : Int32) (hr : f_X11_written G P U V X O kd ln cnt this p0 = some r) (hx : p.tables.exec = Jvm.exec) (hb : c.code = cX11_written) (hml : c.maxLocals = 2) (hown : s.vm.findClass RX11 = some m.cls) (hts : ∀ w ∈ vmX11_written, w.before args s = true) (hA : ∀ q : Nat, s.heap.size ≤ q → A q) (hK : va_K (dC, dI) vwCl (cT kk) s) (hW : LW ws ad kk kd ln G P U V X O) (hT : TYP kd P O (V 0) cnt) (hP : va_P (dC, dI) vwCl ws H) (hD : va_D A ws) (hS : va_S A s.heap H locs) (hl : lv_has ls 2 [(0, .ref (ad this)), (1, .int p0)])
    (K : ∀ (pc : Nat) (ls : Array Slot) (rz : Int32) (ws : va_W) (H : Heap) (locs : List Loc), some rz = some r → decode cX11_written pc = .ok (.ireturn, 1) → LW ws ad kk kd ln G P U V X O → TYP kd P O (V 0) cnt → va_P (dC, dI) vwCl ws H → va_D A ws → va_S A s.heap H locs → W p l e ({ frames := 3, cells := 0, slots := 0, locals := 81 } : Room) s m args below meth c H locs 0 0 Q (F0 m pc ls [.int rz])) : W p l e ({ frames := 3, cells := 0, slots := 0, locals := 81 } : Room) s m args below meth c H locs 0 0 Q (F0 m 0 ls []) := by
  unfold f_X11_written at hr
  refine lv_aload_n hx hb dX11_written_0 rfl (lv_at hl 0 rfl) ?_
  obtain ⟨i1, hi1⟩ := hW.o11 hk_this
  replace hr := nnS hr
  obtain ⟨a1, hn1, hr⟩ := hr
  have hk_a1 : kd a1 = 7 := hT.1 235 _ _ hn1
  refine va_get (D := (dC, dI)) (ci := 11) (v := .ref (ad a1)) (C := RX11) (T := TX11) (N := 17) hx hb hts inX11 hown hK hP i1 hi1 rfl 15 (by decide) (hts (.fieldLink RX11 94 "SpellTurner" "scribe" "LSpellTurner$Scribe;") ic_129) (fun _ h9 => h9) (congrArg (fun o => some (va_re ad o)) hn1) dX11_written_1 ?_
  refine lv_iload_n hx hb dX11_written_4 rfl (lv_at hl 1 rfl) ?_
  replace hr := b1S hr
  obtain ⟨r5z, hc5, hr⟩ := hr
  have hFc := fr_all hD hS hA
  obtain ⟨i2, hi2⟩ := hW.o6 hk_a1
  refine va_calli (va_runV (As := [.int p0]) (rest := []) ⟨hx, hb, hml, hown, hts⟩ (m_X6_byteAt l dC dI kk ad H.size ws G P U V X O kd ln cnt a1 p0 hk_a1 hW hT r5z hc5) (cwV 1 hts gc_RX11_X6_byteAt_273 rfl rfl rfl (by decide +kernel) ⟨Nat.le_of_ble_eq_true rfl, Nat.le_of_ble_eq_true rfl⟩) ⟨fun a U g mk q => by obtain ⟨q0, q1, qP, qK, qD⟩ := q; exact ⟨q0, q1, qP, va_K.moved (u := U) (U := U.calling g mk a) (Vm.Alike.refl U.vm) qK, qD⟩, va_recv hK hP (ci := 6) (q0 := i2) rfl hi2, fun U hU hW => ⟨rfl, by rw [hU], by rw [hU]; exact hP, va_K.moved hW.alike hK, hD.weaken (fun _ _ _ _ => trivial)⟩⟩ rfl rfl hl.1 rfl (lv_room (Nat.le_of_ble_eq_true rfl)) dX11_written_5 ⟨Nat.le_of_ble_eq_true rfl, Nat.le_of_ble_eq_true rfl⟩) hS (fun q _ h => hFc q h) hFc (fun r5 w3 t H1 locs ht hvm hw hB hz1 hk1 hS => ?_)
  obtain ⟨hw0, hW, hT⟩ := hw
  replace hw0 : r5 = r5z := hw0
  subst hw0
  obtain ⟨hP1, hK1, hD1⟩ := hB
  rw [ht] at hP1
  obtain ⟨hP, hD⟩ := jn_all (w1 := w3) hFc hP1 hD1
  replace hP : va_P (dC, dI) vwCl w3 H1 := hP
  replace hD : va_D A w3 := hD
  clear hFc hP1 hK1 hD1 hk1 hz1 ht hvm
  generalize H1 = H at hP hS ⊢
  exact K 8 ls _ w3 H _ hr dX11_written_8 hW hT hP hD hS
set_option maxHeartbeats 4000000 in
set_option maxRecDepth 100000 in
theorem m_X11_written (l : Launch) (dC : Nat → ClassId) (dI : Nat → Nat → Nat) (kk : Nat → ClassId) (ad : Nat → Nat) (sz : Nat) (ws : va_W) (G : Nat → Nat → Int32) (P : Nat → Nat → Option Nat) (U : Nat → Nat → Int64) (V : Nat → Nat → Nat → Int32) (X : Nat → Nat → Nat → Int64) (O : Nat → Nat → Nat → Option Nat) (kd : Nat → Nat) (ln : Nat → Nat) (cnt : Nat) (this : Nat) (p0 : Int32) (hk_this : kd this = 12) (hW : LW ws ad kk kd ln G P U V X O) (hT : TYP kd P O (V 0) cnt) (r : Int32) (hr : f_X11_written G P U V X O kd ln cnt this p0 = some r) : Met l yX11_written vmX11_written ({ frames := 3, cells := 0, slots := 0, locals := 81 } : Room) (va_Pc [.ref (ad this), .int p0] (fun U => U.heap.size = sz ∧ va_P (dC, dI) vwCl ws U.heap ∧ va_K (dC, dI) vwCl (cT kk) U ∧ va_D (fun _ => True) ws)) (va_Qi (fun (rz : Int32) (w : va_W) => rz = r ∧ LW w ad kk kd ln G P U V X O ∧ TYP kd P O (V 0) cnt) (fun w t => va_P (dC, dI) vwCl w t.heap ∧ va_K (dC, dI) vwCl (cT kk) t ∧ va_D (va_A ws sz) w) (va_A ws sz)) 0 0 (va_A ws sz) := by
  refine Met.ofW (cc := cX11_written) (maxL := 2) (ret := (some .int)) (by decide) rfl ?_
  intro p e s m args below meth c s₁ B hml hv
  obtain ⟨rfl, hsz, hP, hK, hD0⟩ := hv
  have hx := B.exec
  have hb := B.bytes
  have hrt := B.returns
  have hts := atoms_spec (ws := vmX11_written) B.pre
  have hown : s.vm.findClass RX11 = some m.cls := findClass_of_methodNamed B.named
  subst hsz
  have hD := hD0.self (sz := s.heap.size)
  generalize hAe : va_A ws s.heap.size = A at hD ⊢
  have hA : ∀ q : Nat, s.heap.size ≤ q → A q := fun q h => by rw [← hAe]; exact Or.inr h
  have hS : va_S A s.heap s.heap [] := va_S.rf
  have hl := lv_entry ([.ref (ad this), .int p0]) (n := 2) (Nat.le_of_ble_eq_true rfl)
  rw [lg_entry_eq]
  generalize (lg_sl ([.ref (ad this), .int p0]) ++ List.replicate (2 - (lg_sl ([.ref (ad this), .int p0])).length) Slot.unset).toArray = ls at hl ⊢
  exact bm_X11_written this p0 hk_this r hr hx hb hml hown hts hA hK hW hT hP hD hS hl (fun pc ls rz ws H locs he hd hW hT hP hD hS => by cases he; exact W.iret (v := r) hx hb hrt (fun t ht hW9 => ⟨⟨r, ws, rfl, ⟨rfl, hW, hT⟩, by rw [ht]; exact hP, va_K.moved hW9.alike hK, hD⟩, hS.F ht⟩) hS.2.2 hd)
set_option maxHeartbeats 4000000 in
set_option maxRecDepth 100000 in
theorem bm_X1_standsAt {p : Program} {l : Launch} {e : Env} {s : State} {m : MethodId} {args : Array Value} {below : List Frame} {meth : Method} {c : Code} {Q : State → Prop} {A : Nat → Prop} {dC : Nat → ClassId} {dI : Nat → Nat → Nat} {kk : Nat → ClassId} {ad : Nat → Nat} {ws : va_W} {G : Nat → Nat → Int32} {P : Nat → Nat → Option Nat} {U : Nat → Nat → Int64} {V : Nat → Nat → Nat → Int32} {X : Nat → Nat → Nat → Int64} {O : Nat → Nat → Nat → Option Nat} {kd : Nat → Nat} {ln : Nat → Nat} {cnt : Nat} {H : Heap} {locs : List Loc} {ls : Array Slot} (this : Nat) (p0 : Nat) (p1 : Int32) (p2 : Int32) (p3 : Nat) (p4 : Int32) (hk_this : kd this = 2) (hk_p0 : kd p0 = 100) (hk_p3 : kd p3 = 100) (r : Int32) (hr : f_X1_standsAt G P U V X O kd ln cnt this p0 p1 p2 p3 p4 = some r) (hx : p.tables.exec = Jvm.exec) (hb : c.code = cX1_standsAt) (hml : c.maxLocals = 7) (hown : s.vm.findClass RX1 = some m.cls) (hts : ∀ w ∈ vmX1_standsAt, w.before args s = true) (hA : ∀ q : Nat, s.heap.size ≤ q → A q) (hK : va_K (dC, dI) vwCl (cT kk) s) (hW : LW ws ad kk kd ln G P U V X O) (hT : TYP kd P O (V 0) cnt) (hP : va_P (dC, dI) vwCl ws H) (hD : va_D A ws) (hS : va_S A s.heap H locs) (hl : lv_has ls 7 [(0, .ref (ad this)), (1, .ref (ad p0)), (2, .int p1), (3, .int p2), (4, .ref (ad p3)), (5, .int p4)])
    (K : ∀ (pc : Nat) (ls : Array Slot) (rz : Int32) (ws : va_W) (H : Heap) (locs : List Loc), some rz = some r → is01 rz → decode cX1_standsAt pc = .ok (.ireturn, 1) → LW ws ad kk kd ln G P U V X O → TYP kd P O (V 0) cnt → va_P (dC, dI) vwCl ws H → va_D A ws → va_S A s.heap H locs → W p l e ({ frames := 3, cells := 0, slots := 0, locals := 85 } : Room) s m args below meth c H locs 0 0 Q (F0 m pc ls [.int rz])) : W p l e ({ frames := 3, cells := 0, slots := 0, locals := 85 } : Room) s m args below meth c H locs 0 0 Q (F0 m 0 ls []) := by
  unfold f_X1_standsAt at hr
  refine lv_iload_n hx hb dX1_standsAt_0 rfl (lv_at hl 3 rfl) ?_
  refine lv_iload_n hx hb dX1_standsAt_1 rfl (lv_at hl 2 rfl) ?_
  refine lv_isub hx hb dX1_standsAt_2 ?_
  refine lv_aload_n hx hb dX1_standsAt_3 rfl (lv_at hl 0 rfl) ?_
  obtain ⟨i1, hi1⟩ := hW.o1 hk_this
  replace hr := nnS hr
  obtain ⟨a4, hn4, hr⟩ := hr
  have hk_a4 : kd a4 = 100 := hT.1 20 _ _ hn4
  refine va_get (D := (dC, dI)) (ci := 1) (v := .ref (ad a4)) (C := RX1) (T := TX1) (N := 6) hx hb hts inX1 hown hK hP i1 hi1 rfl 0 (by decide) (hts (.fieldLink RX1 23 "SpellTurner$Law" "first" "[B") ic_188) (fun _ h9 => h9) (congrArg (fun o => some (va_re ad o)) hn4) dX1_standsAt_4 ?_
  obtain ⟨i2, hi2⟩ := hW.v0 hk_a4
  refine va_alen (v := (Int32.ofNat (ln a4))) hx hb hK hP i2 0 hi2 rfl rfl dX1_standsAt_7 ?_
  refine lv_isub hx hb dX1_standsAt_8 ?_
  refine lv_topi (fun x9 ex9 => ?_)
  replace hr := vlS hr x9 ex9
  clear ex9
  refine lv_istore (lv' := [(6, .int x9), (0, .ref (ad this)), (1, .ref (ad p0)), (2, .int p1), (3, .int p2), (4, .ref (ad p3)), (5, .int p4)]) hx hb dX1_standsAt_9 hl (by decide) rfl (fun ls hl => ?_)
  refine lv_iload hx hb dX1_standsAt_11 (lv_at hl 0 rfl) ?_
  replace hr := jnS hr
  obtain ⟨j40, hj40, hr⟩ := hr
  have Jj40 : ∀ (ws : va_W) (H : Heap) (locs : List Loc) (ls : Array Slot), j40 () = some r → LW ws ad kk kd ln G P U V X O → TYP kd P O (V 0) cnt → va_P (dC, dI) vwCl ws H → va_D A ws → va_S A s.heap H locs → lv_has ls 7 [] → W p l e ({ frames := 3, cells := 0, slots := 0, locals := 85 } : Room) s m args below meth c H locs 0 0 Q (F0 m 40 ls []) := by
    intro ws H locs ls hr hW hT hP hD hS hl
    rw [hj40] at hr
    refine lv_iconst (v := 0) hx hb dX1_standsAt_40 (by decide +kernel) ?_
    exact K 41 ls _ ws H _ hr (by decide) dX1_standsAt_41 hW hT hP hD hS
  refine lv_if_lt (tgt := 40) hx hb dX1_standsAt_13 (by decide) (fun c13 => ?_) (fun c13 => ?_)
  · replace hr := iteT c13 hr
    exact Jj40 ws H _ ls hr hW hT hP hD hS (lv_sub hl [] rfl)
  · replace hr := iteF c13 hr
    refine lv_aload_n hx hb dX1_standsAt_16 rfl (lv_at hl 1 rfl) ?_
    obtain ⟨i3, hi3⟩ := hW.o1 hk_this
    refine va_get (D := (dC, dI)) (ci := 1) (v := .int ((G 24) this)) (C := RX1) (T := TX1) (N := 6) hx hb hts inX1 hown hK hP i3 hi3 rfl 4 (by decide) (hts (.fieldLink RX1 16 "SpellTurner$Law" "atStart" "Z") ic_189) (fun _ h9 => h9) rfl dX1_standsAt_17 ?_
    replace hr := jnS hr
    obtain ⟨j28, hj28, hr⟩ := hr
    have Jj28 : ∀ (ws : va_W) (H : Heap) (locs : List Loc) (ls : Array Slot), j28 () = some r → LW ws ad kk kd ln G P U V X O → TYP kd P O (V 0) cnt → va_P (dC, dI) vwCl ws H → va_D A ws → va_S A s.heap H locs → lv_has ls 7 [(0, .ref (ad this)), (1, .ref (ad p0)), (2, .int p1), (4, .ref (ad p3)), (5, .int p4), (6, .int x9)] → W p l e ({ frames := 3, cells := 0, slots := 0, locals := 85 } : Room) s m args below meth c H locs 0 0 Q (F0 m 28 ls []) := by
      intro ws H locs ls hr hW hT hP hD hS hl
      rw [hj28] at hr
      refine lv_aload_n hx hb dX1_standsAt_28 rfl (lv_at hl 0 rfl) ?_
      obtain ⟨i4, hi4⟩ := hW.o1 hk_this
      refine va_get (D := (dC, dI)) (ci := 1) (v := .int ((G 25) this)) (C := RX1) (T := TX1) (N := 6) hx hb hts inX1 hown hK hP i4 hi4 rfl 5 (by decide) (hts (.fieldLink RX1 20 "SpellTurner$Law" "atEnd" "Z") ic_190) (fun _ h9 => h9) rfl dX1_standsAt_29 ?_
      replace hr := jnS hr
      obtain ⟨j42, hj42, hr⟩ := hr
      have Jj42 : ∀ (ws : va_W) (H : Heap) (locs : List Loc) (ls : Array Slot), j42 () = some r → LW ws ad kk kd ln G P U V X O → TYP kd P O (V 0) cnt → va_P (dC, dI) vwCl ws H → va_D A ws → va_S A s.heap H locs → lv_has ls 7 [(0, .ref (ad this)), (1, .ref (ad p0)), (2, .int p1), (4, .ref (ad p3)), (5, .int p4), (6, .int x9)] → W p l e ({ frames := 3, cells := 0, slots := 0, locals := 85 } : Room) s m args below meth c H locs 0 0 Q (F0 m 42 ls []) := by
        intro ws H locs ls hr hW hT hP hD hS hl
        rw [hj42] at hr
        refine lv_aload_n hx hb dX1_standsAt_42 rfl (lv_at hl 0 rfl) ?_
        obtain ⟨i5, hi5⟩ := hW.o1 hk_this
        replace hr := nnS hr
        obtain ⟨a43, hn43, hr⟩ := hr
        have hk_a43 : kd a43 = 100 := hT.1 22 _ _ hn43
        refine va_get (D := (dC, dI)) (ci := 1) (v := .ref (ad a43)) (C := RX1) (T := TX1) (N := 6) hx hb hts inX1 hown hK hP i5 hi5 rfl 2 (by decide) (hts (.fieldLink RX1 7 "SpellTurner$Law" "ahead" "[B") ic_191) (fun _ h9 => h9) (congrArg (fun o => some (va_re ad o)) hn43) dX1_standsAt_43 ?_
        obtain ⟨i6, hi6⟩ := hW.v0 hk_a43
        refine va_alen (v := (Int32.ofNat (ln a43))) hx hb hK hP i6 0 hi6 rfl rfl dX1_standsAt_46 ?_
        refine lv_iload hx hb dX1_standsAt_47 (lv_at hl 4 rfl) ?_
        replace hr := jnS hr
        obtain ⟨j62, hj62, hr⟩ := hr
        have Jj62 : ∀ (ws : va_W) (H : Heap) (locs : List Loc) (ls : Array Slot), j62 () = some r → LW ws ad kk kd ln G P U V X O → TYP kd P O (V 0) cnt → va_P (dC, dI) vwCl ws H → va_D A ws → va_S A s.heap H locs → lv_has ls 7 [] → W p l e ({ frames := 3, cells := 0, slots := 0, locals := 85 } : Room) s m args below meth c H locs 0 0 Q (F0 m 62 ls []) := by
          intro ws H locs ls hr hW hT hP hD hS hl
          rw [hj62] at hr
          refine lv_iconst (v := 0) hx hb dX1_standsAt_62 (by decide +kernel) ?_
          exact K 63 ls _ ws H _ hr (by decide) dX1_standsAt_63 hW hT hP hD hS
        refine lv_icmp_gt (tgt := 62) hx hb dX1_standsAt_49 (by decide) (fun c49 => ?_) (fun c49 => ?_)
        · replace hr := iteT c49 hr
          exact Jj62 ws H _ ls hr hW hT hP hD hS (lv_sub hl [] rfl)
        · replace hr := iteF c49 hr
          refine lv_aload_n hx hb dX1_standsAt_52 rfl (lv_at hl 0 rfl) ?_
          obtain ⟨i7, hi7⟩ := hW.o1 hk_this
          replace hr := nnS hr
          obtain ⟨a53, hn53, hr⟩ := hr
          have hk_a53 : kd a53 = 100 := hT.1 23 _ _ hn53
          refine va_get (D := (dC, dI)) (ci := 1) (v := .ref (ad a53)) (C := RX1) (T := TX1) (N := 6) hx hb hts inX1 hown hK hP i7 hi7 rfl 3 (by decide) (hts (.fieldLink RX1 13 "SpellTurner$Law" "behind" "[B") ic_192) (fun _ h9 => h9) (congrArg (fun o => some (va_re ad o)) hn53) dX1_standsAt_53 ?_
          obtain ⟨i8, hi8⟩ := hW.v0 hk_a53
          refine va_alen (v := (Int32.ofNat (ln a53))) hx hb hK hP i8 0 hi8 rfl rfl dX1_standsAt_56 ?_
          refine lv_iload hx hb dX1_standsAt_57 (lv_at hl 5 rfl) ?_
          refine lv_icmp_le (tgt := 64) hx hb dX1_standsAt_59 (by decide) (fun c59 => ?_) (fun c59 => ?_)
          · replace hr := iteT c59 hr
            refine lv_aload_n hx hb dX1_standsAt_64 rfl (lv_at hl 0 rfl) ?_
            obtain ⟨i9, hi9⟩ := hW.o1 hk_this
            replace hr := nnS hr
            obtain ⟨a65, hn65, hr⟩ := hr
            have hk_a65 : kd a65 = 100 := hT.1 20 _ _ hn65
            refine va_get (D := (dC, dI)) (ci := 1) (v := .ref (ad a65)) (C := RX1) (T := TX1) (N := 6) hx hb hts inX1 hown hK hP i9 hi9 rfl 0 (by decide) (hts (.fieldLink RX1 23 "SpellTurner$Law" "first" "[B") ic_188) (fun _ h9 => h9) (congrArg (fun o => some (va_re ad o)) hn65) dX1_standsAt_65 ?_
            refine lv_iconst (v := 0) hx hb dX1_standsAt_68 (by decide +kernel) ?_
            refine lv_aload_n hx hb dX1_standsAt_69 rfl (lv_at hl 1 rfl) ?_
            refine lv_iload_n hx hb dX1_standsAt_70 rfl (lv_at hl 2 rfl) ?_
            refine lv_aload_n hx hb dX1_standsAt_71 rfl (lv_at hl 0 rfl) ?_
            obtain ⟨i10, hi10⟩ := hW.o1 hk_this
            replace hr := nnS hr
            obtain ⟨a72, hn72, hr⟩ := hr
            have hk_a72 : kd a72 = 100 := hT.1 20 _ _ hn72
            refine va_get (D := (dC, dI)) (ci := 1) (v := .ref (ad a72)) (C := RX1) (T := TX1) (N := 6) hx hb hts inX1 hown hK hP i10 hi10 rfl 0 (by decide) (hts (.fieldLink RX1 23 "SpellTurner$Law" "first" "[B") ic_188) (fun _ h9 => h9) (congrArg (fun o => some (va_re ad o)) hn72) dX1_standsAt_72 ?_
            obtain ⟨i11, hi11⟩ := hW.v0 hk_a72
            refine va_alen (v := (Int32.ofNat (ln a72))) hx hb hK hP i11 0 hi11 rfl rfl dX1_standsAt_75 ?_
            replace hr := b1S hr
            obtain ⟨r76z, hc76, hr⟩ := hr
            have hFc := fr_all hD hS hA
            refine va_calli (va_runS (As := [.ref (ad a65), .int 0, .ref (ad p0), .int p1, .int (Int32.ofNat (ln a72))]) (rest := []) ⟨hx, hb, hml, hown, hts⟩ (m_X10_same l dC dI kk ad H.size ws G P U V X O kd ln cnt a65 0 p0 p1 (Int32.ofNat (ln a72)) hk_a65 hk_p0 hW hT r76z hc76) (va_cwS 5 hts gc_RX1_X10_same_29 rfl rfl rfl (by decide +kernel) ⟨Nat.le_of_ble_eq_true rfl, Nat.le_of_ble_eq_true rfl⟩) ⟨fun a U g mk q => by obtain ⟨q0, q1, qP, qK, qD⟩ := q; exact ⟨q0, q1, qP, va_K.moved (u := U) (U := U.calling g mk a) (Vm.Alike.refl U.vm) qK, qD⟩, fun U hU hW => ⟨rfl, by rw [hU], by rw [hU]; exact hP, va_K.moved hW.alike hK, hD.weaken (fun _ _ _ _ => trivial)⟩⟩ rfl rfl hl.1 rfl (lv_room (Nat.le_of_ble_eq_true rfl)) dX1_standsAt_76 ⟨Nat.le_of_ble_eq_true rfl, Nat.le_of_ble_eq_true rfl⟩) hS (fun q _ h => hFc q h) hFc (fun r76 w12 t H1 locs ht hvm hw hB hz1 hk1 hS => ?_)
            obtain ⟨hw0, hW, hT⟩ := hw
            replace hw0 : r76 = r76z := hw0
            subst hw0
            obtain ⟨hP1, hK1, hD1⟩ := hB
            rw [ht] at hP1
            obtain ⟨hP, hD⟩ := jn_all (w1 := w12) hFc hP1 hD1
            replace hP : va_P (dC, dI) vwCl w12 H1 := hP
            replace hD : va_D A w12 := hD
            clear hFc hP1 hK1 hD1 hk1 hz1 ht hvm
            generalize H1 = H at hP hS ⊢
            replace hr := jnS hr
            obtain ⟨j137, hj137, hr⟩ := hr
            have Jj137 : ∀ (t137_0 : Int32) (ws : va_W) (H : Heap) (locs : List Loc) (ls : Array Slot), j137 t137_0 = some r → LW ws ad kk kd ln G P U V X O → TYP kd P O (V 0) cnt → va_P (dC, dI) vwCl ws H → va_D A ws → va_S A s.heap H locs → lv_has ls 7 [] → W p l e ({ frames := 3, cells := 0, slots := 0, locals := 85 } : Room) s m args below meth c H locs 0 0 Q (F0 m 137 ls [.int t137_0]) := by
              intro t137_0 ws H locs ls hr hW hT hP hD hS hl
              rw [hj137] at hr
              replace hr := iteS hr
              obtain ⟨hz137, hr⟩ := hr
              exact K 137 ls _ ws H _ hr hz137 dX1_standsAt_137 hW hT hP hD hS
            replace hr := jnS hr
            obtain ⟨j136, hj136, hr⟩ := hr
            have Jj136 : ∀ (ws : va_W) (H : Heap) (locs : List Loc) (ls : Array Slot), j136 () = some r → LW ws ad kk kd ln G P U V X O → TYP kd P O (V 0) cnt → va_P (dC, dI) vwCl ws H → va_D A ws → va_S A s.heap H locs → lv_has ls 7 [] → W p l e ({ frames := 3, cells := 0, slots := 0, locals := 85 } : Room) s m args below meth c H locs 0 0 Q (F0 m 136 ls []) := by
              intro ws H locs ls hr hW hT hP hD hS hl
              rw [hj136] at hr
              refine lv_iconst (v := 0) hx hb dX1_standsAt_136 (by decide +kernel) ?_
              exact Jj137 0 ws H _ ls hr hW hT hP hD hS (lv_sub hl [] rfl)
            refine lv_if_eq (tgt := 136) hx hb dX1_standsAt_79 (by decide) (fun c79 => ?_) (fun c79 => ?_)
            · replace hr := iteT c79 hr
              exact Jj136 w12 H _ ls hr hW hT hP hD hS (lv_sub hl [] rfl)
            · replace hr := iteF c79 hr
              refine lv_aload_n hx hb dX1_standsAt_82 rfl (lv_at hl 0 rfl) ?_
              obtain ⟨i13, hi13⟩ := hW.o1 hk_this
              replace hr := nnS hr
              obtain ⟨a83, hn83, hr⟩ := hr
              have hk_a83 : kd a83 = 100 := hT.1 22 _ _ hn83
              refine va_get (D := (dC, dI)) (ci := 1) (v := .ref (ad a83)) (C := RX1) (T := TX1) (N := 6) hx hb hts inX1 hown hK hP i13 hi13 rfl 2 (by decide) (hts (.fieldLink RX1 7 "SpellTurner$Law" "ahead" "[B") ic_191) (fun _ h9 => h9) (congrArg (fun o => some (va_re ad o)) hn83) dX1_standsAt_83 ?_
              refine lv_iconst (v := 0) hx hb dX1_standsAt_86 (by decide +kernel) ?_
              refine lv_aload hx hb dX1_standsAt_87 (lv_at hl 3 rfl) ?_
              refine lv_iload hx hb dX1_standsAt_89 (lv_at hl 4 rfl) ?_
              refine lv_aload_n hx hb dX1_standsAt_91 rfl (lv_at hl 0 rfl) ?_
              obtain ⟨i14, hi14⟩ := hW.o1 hk_this
              replace hr := nnS hr
              obtain ⟨a92, hn92, hr⟩ := hr
              have hk_a92 : kd a92 = 100 := hT.1 22 _ _ hn92
              refine va_get (D := (dC, dI)) (ci := 1) (v := .ref (ad a92)) (C := RX1) (T := TX1) (N := 6) hx hb hts inX1 hown hK hP i14 hi14 rfl 2 (by decide) (hts (.fieldLink RX1 7 "SpellTurner$Law" "ahead" "[B") ic_191) (fun _ h9 => h9) (congrArg (fun o => some (va_re ad o)) hn92) dX1_standsAt_92 ?_
              obtain ⟨i15, hi15⟩ := hW.v0 hk_a92
              refine va_alen (v := (Int32.ofNat (ln a92))) hx hb hK hP i15 0 hi15 rfl rfl dX1_standsAt_95 ?_
              refine lv_isub hx hb dX1_standsAt_96 ?_
              refine lv_aload_n hx hb dX1_standsAt_97 rfl (lv_at hl 0 rfl) ?_
              obtain ⟨i16, hi16⟩ := hW.o1 hk_this
              replace hr := nnS hr
              obtain ⟨a98, hn98, hr⟩ := hr
              have hk_a98 : kd a98 = 100 := hT.1 22 _ _ hn98
              refine va_get (D := (dC, dI)) (ci := 1) (v := .ref (ad a98)) (C := RX1) (T := TX1) (N := 6) hx hb hts inX1 hown hK hP i16 hi16 rfl 2 (by decide) (hts (.fieldLink RX1 7 "SpellTurner$Law" "ahead" "[B") ic_191) (fun _ h9 => h9) (congrArg (fun o => some (va_re ad o)) hn98) dX1_standsAt_98 ?_
              obtain ⟨i17, hi17⟩ := hW.v0 hk_a98
              refine va_alen (v := (Int32.ofNat (ln a98))) hx hb hK hP i17 0 hi17 rfl rfl dX1_standsAt_101 ?_
              replace hr := b1S hr
              obtain ⟨r102z, hc102, hr⟩ := hr
              have hFc := fr_all hD hS hA
              refine va_calli (va_runS (As := [.ref (ad a83), .int 0, .ref (ad p3), .int (p4 - (Int32.ofNat (ln a92))), .int (Int32.ofNat (ln a98))]) (rest := []) ⟨hx, hb, hml, hown, hts⟩ (m_X10_same l dC dI kk ad H.size w12 G P U V X O kd ln cnt a83 0 p3 (p4 - (Int32.ofNat (ln a92))) (Int32.ofNat (ln a98)) hk_a83 hk_p3 hW hT r102z hc102) (va_cwS 5 hts gc_RX1_X10_same_29 rfl rfl rfl (by decide +kernel) ⟨Nat.le_of_ble_eq_true rfl, Nat.le_of_ble_eq_true rfl⟩) ⟨fun a U g mk q => by obtain ⟨q0, q1, qP, qK, qD⟩ := q; exact ⟨q0, q1, qP, va_K.moved (u := U) (U := U.calling g mk a) (Vm.Alike.refl U.vm) qK, qD⟩, fun U hU hW => ⟨rfl, by rw [hU], by rw [hU]; exact hP, va_K.moved hW.alike hK, hD.weaken (fun _ _ _ _ => trivial)⟩⟩ rfl rfl hl.1 rfl (lv_room (Nat.le_of_ble_eq_true rfl)) dX1_standsAt_102 ⟨Nat.le_of_ble_eq_true rfl, Nat.le_of_ble_eq_true rfl⟩) hS (fun q _ h => hFc q h) hFc (fun r102 w18 t H1 locs ht hvm hw hB hz1 hk1 hS => ?_)
              obtain ⟨hw0, hW, hT⟩ := hw
              replace hw0 : r102 = r102z := hw0
              subst hw0
              obtain ⟨hP1, hK1, hD1⟩ := hB
              rw [ht] at hP1
              obtain ⟨hP, hD⟩ := jn_all (w1 := w18) hFc hP1 hD1
              replace hP : va_P (dC, dI) vwCl w18 H1 := hP
              replace hD : va_D A w18 := hD
              clear hFc hP1 hK1 hD1 hk1 hz1 ht hvm
              generalize H1 = H at hP hS ⊢
              refine lv_if_eq (tgt := 136) hx hb dX1_standsAt_105 (by decide) (fun c105 => ?_) (fun c105 => ?_)
              · replace hr := iteT c105 hr
                exact Jj136 w18 H _ ls hr hW hT hP hD hS (lv_sub hl [] rfl)
              · replace hr := iteF c105 hr
                refine lv_aload_n hx hb dX1_standsAt_108 rfl (lv_at hl 0 rfl) ?_
                obtain ⟨i19, hi19⟩ := hW.o1 hk_this
                replace hr := nnS hr
                obtain ⟨a109, hn109, hr⟩ := hr
                have hk_a109 : kd a109 = 100 := hT.1 23 _ _ hn109
                refine va_get (D := (dC, dI)) (ci := 1) (v := .ref (ad a109)) (C := RX1) (T := TX1) (N := 6) hx hb hts inX1 hown hK hP i19 hi19 rfl 3 (by decide) (hts (.fieldLink RX1 13 "SpellTurner$Law" "behind" "[B") ic_192) (fun _ h9 => h9) (congrArg (fun o => some (va_re ad o)) hn109) dX1_standsAt_109 ?_
                refine lv_iconst (v := 0) hx hb dX1_standsAt_112 (by decide +kernel) ?_
                refine lv_aload_n hx hb dX1_standsAt_113 rfl (lv_at hl 1 rfl) ?_
                refine lv_iload_n hx hb dX1_standsAt_114 rfl (lv_at hl 2 rfl) ?_
                refine lv_aload_n hx hb dX1_standsAt_115 rfl (lv_at hl 0 rfl) ?_
                obtain ⟨i20, hi20⟩ := hW.o1 hk_this
                replace hr := nnS hr
                obtain ⟨a116, hn116, hr⟩ := hr
                have hk_a116 : kd a116 = 100 := hT.1 20 _ _ hn116
                refine va_get (D := (dC, dI)) (ci := 1) (v := .ref (ad a116)) (C := RX1) (T := TX1) (N := 6) hx hb hts inX1 hown hK hP i20 hi20 rfl 0 (by decide) (hts (.fieldLink RX1 23 "SpellTurner$Law" "first" "[B") ic_188) (fun _ h9 => h9) (congrArg (fun o => some (va_re ad o)) hn116) dX1_standsAt_116 ?_
                obtain ⟨i21, hi21⟩ := hW.v0 hk_a116
                refine va_alen (v := (Int32.ofNat (ln a116))) hx hb hK hP i21 0 hi21 rfl rfl dX1_standsAt_119 ?_
                refine lv_iadd hx hb dX1_standsAt_120 ?_
                refine lv_aload_n hx hb dX1_standsAt_121 rfl (lv_at hl 0 rfl) ?_
                obtain ⟨i22, hi22⟩ := hW.o1 hk_this
                replace hr := nnS hr
                obtain ⟨a122, hn122, hr⟩ := hr
                have hk_a122 : kd a122 = 100 := hT.1 23 _ _ hn122
                refine va_get (D := (dC, dI)) (ci := 1) (v := .ref (ad a122)) (C := RX1) (T := TX1) (N := 6) hx hb hts inX1 hown hK hP i22 hi22 rfl 3 (by decide) (hts (.fieldLink RX1 13 "SpellTurner$Law" "behind" "[B") ic_192) (fun _ h9 => h9) (congrArg (fun o => some (va_re ad o)) hn122) dX1_standsAt_122 ?_
                obtain ⟨i23, hi23⟩ := hW.v0 hk_a122
                refine va_alen (v := (Int32.ofNat (ln a122))) hx hb hK hP i23 0 hi23 rfl rfl dX1_standsAt_125 ?_
                replace hr := b1S hr
                obtain ⟨r126z, hc126, hr⟩ := hr
                have hFc := fr_all hD hS hA
                refine va_calli (va_runS (As := [.ref (ad a109), .int 0, .ref (ad p0), .int (p1 + (Int32.ofNat (ln a116))), .int (Int32.ofNat (ln a122))]) (rest := []) ⟨hx, hb, hml, hown, hts⟩ (m_X10_same l dC dI kk ad H.size w18 G P U V X O kd ln cnt a109 0 p0 (p1 + (Int32.ofNat (ln a116))) (Int32.ofNat (ln a122)) hk_a109 hk_p0 hW hT r126z hc126) (va_cwS 5 hts gc_RX1_X10_same_29 rfl rfl rfl (by decide +kernel) ⟨Nat.le_of_ble_eq_true rfl, Nat.le_of_ble_eq_true rfl⟩) ⟨fun a U g mk q => by obtain ⟨q0, q1, qP, qK, qD⟩ := q; exact ⟨q0, q1, qP, va_K.moved (u := U) (U := U.calling g mk a) (Vm.Alike.refl U.vm) qK, qD⟩, fun U hU hW => ⟨rfl, by rw [hU], by rw [hU]; exact hP, va_K.moved hW.alike hK, hD.weaken (fun _ _ _ _ => trivial)⟩⟩ rfl rfl hl.1 rfl (lv_room (Nat.le_of_ble_eq_true rfl)) dX1_standsAt_126 ⟨Nat.le_of_ble_eq_true rfl, Nat.le_of_ble_eq_true rfl⟩) hS (fun q _ h => hFc q h) hFc (fun r126 w24 t H1 locs ht hvm hw hB hz1 hk1 hS => ?_)
                obtain ⟨hw0, hW, hT⟩ := hw
                replace hw0 : r126 = r126z := hw0
                subst hw0
                obtain ⟨hP1, hK1, hD1⟩ := hB
                rw [ht] at hP1
                obtain ⟨hP, hD⟩ := jn_all (w1 := w24) hFc hP1 hD1
                replace hP : va_P (dC, dI) vwCl w24 H1 := hP
                replace hD : va_D A w24 := hD
                clear hFc hP1 hK1 hD1 hk1 hz1 ht hvm
                generalize H1 = H at hP hS ⊢
                refine lv_if_eq (tgt := 136) hx hb dX1_standsAt_129 (by decide) (fun c129 => ?_) (fun c129 => ?_)
                · replace hr := iteT c129 hr
                  exact Jj136 w24 H _ ls hr hW hT hP hD hS (lv_sub hl [] rfl)
                · replace hr := iteF c129 hr
                  refine lv_iconst (v := 1) hx hb dX1_standsAt_132 (by decide +kernel) ?_
                  refine lv_goto (tgt := 137) hx hb dX1_standsAt_133 (by decide) ?_
                  exact Jj137 1 w24 H _ ls hr hW hT hP hD hS (lv_sub hl [] rfl)
          · replace hr := iteF c59 hr
            exact Jj62 ws H _ ls hr hW hT hP hD hS (lv_sub hl [] rfl)
      refine lv_if_eq (tgt := 42) hx hb dX1_standsAt_32 (by decide) (fun c32 => ?_) (fun c32 => ?_)
      · replace hr := iteT c32 hr
        exact Jj42 ws H _ ls hr hW hT hP hD hS (lv_sub hl [0, 1, 2, 3, 4, 5] rfl)
      · replace hr := iteF c32 hr
        refine lv_iload hx hb dX1_standsAt_35 (lv_at hl 5 rfl) ?_
        refine lv_if_le (tgt := 42) hx hb dX1_standsAt_37 (by decide) (fun c37 => ?_) (fun c37 => ?_)
        · replace hr := iteT c37 hr
          exact Jj42 ws H _ ls hr hW hT hP hD hS (lv_sub hl [0, 1, 2, 3, 4, 5] rfl)
        · replace hr := iteF c37 hr
          exact Jj40 ws H _ ls hr hW hT hP hD hS (lv_sub hl [] rfl)
    refine lv_if_eq (tgt := 28) hx hb dX1_standsAt_20 (by decide) (fun c20 => ?_) (fun c20 => ?_)
    · replace hr := iteT c20 hr
      exact Jj28 ws H _ ls hr hW hT hP hD hS (lv_sub hl [1, 2, 3, 5, 6, 0] rfl)
    · replace hr := iteF c20 hr
      refine lv_iload hx hb dX1_standsAt_23 (lv_at hl 6 rfl) ?_
      refine lv_if_gt (tgt := 40) hx hb dX1_standsAt_25 (by decide) (fun c25 => ?_) (fun c25 => ?_)
      · replace hr := iteT c25 hr
        exact Jj40 ws H _ ls hr hW hT hP hD hS (lv_sub hl [] rfl)
      · replace hr := iteF c25 hr
        exact Jj28 ws H _ ls hr hW hT hP hD hS (lv_sub hl [1, 2, 3, 5, 6, 0] rfl)
set_option maxHeartbeats 4000000 in
set_option maxRecDepth 100000 in
theorem m_X1_standsAt (l : Launch) (dC : Nat → ClassId) (dI : Nat → Nat → Nat) (kk : Nat → ClassId) (ad : Nat → Nat) (sz : Nat) (ws : va_W) (G : Nat → Nat → Int32) (P : Nat → Nat → Option Nat) (U : Nat → Nat → Int64) (V : Nat → Nat → Nat → Int32) (X : Nat → Nat → Nat → Int64) (O : Nat → Nat → Nat → Option Nat) (kd : Nat → Nat) (ln : Nat → Nat) (cnt : Nat) (this : Nat) (p0 : Nat) (p1 : Int32) (p2 : Int32) (p3 : Nat) (p4 : Int32) (hk_this : kd this = 2) (hk_p0 : kd p0 = 100) (hk_p3 : kd p3 = 100) (hW : LW ws ad kk kd ln G P U V X O) (hT : TYP kd P O (V 0) cnt) (r : Int32) (hr : f_X1_standsAt G P U V X O kd ln cnt this p0 p1 p2 p3 p4 = some r) : Met l yX1_standsAt vmX1_standsAt ({ frames := 3, cells := 0, slots := 0, locals := 85 } : Room) (va_Pc [.ref (ad this), .ref (ad p0), .int p1, .int p2, .ref (ad p3), .int p4] (fun U => U.heap.size = sz ∧ va_P (dC, dI) vwCl ws U.heap ∧ va_K (dC, dI) vwCl (cT kk) U ∧ va_D (fun _ => True) ws)) (va_Qi (fun (rz : Int32) (w : va_W) => rz = r ∧ LW w ad kk kd ln G P U V X O ∧ TYP kd P O (V 0) cnt) (fun w t => va_P (dC, dI) vwCl w t.heap ∧ va_K (dC, dI) vwCl (cT kk) t ∧ va_D (va_A ws sz) w) (va_A ws sz)) 0 0 (va_A ws sz) := by
  refine Met.ofW (cc := cX1_standsAt) (maxL := 7) (ret := (some .boolean)) (by decide) rfl ?_
  intro p e s m args below meth c s₁ B hml hv
  obtain ⟨rfl, hsz, hP, hK, hD0⟩ := hv
  have hx := B.exec
  have hb := B.bytes
  have hrt := B.returns
  have hts := atoms_spec (ws := vmX1_standsAt) B.pre
  have hown : s.vm.findClass RX1 = some m.cls := findClass_of_methodNamed B.named
  subst hsz
  have hD := hD0.self (sz := s.heap.size)
  generalize hAe : va_A ws s.heap.size = A at hD ⊢
  have hA : ∀ q : Nat, s.heap.size ≤ q → A q := fun q h => by rw [← hAe]; exact Or.inr h
  have hS : va_S A s.heap s.heap [] := va_S.rf
  have hl := lv_entry ([.ref (ad this), .ref (ad p0), .int p1, .int p2, .ref (ad p3), .int p4]) (n := 7) (Nat.le_of_ble_eq_true rfl)
  rw [lg_entry_eq]
  generalize (lg_sl ([.ref (ad this), .ref (ad p0), .int p1, .int p2, .ref (ad p3), .int p4]) ++ List.replicate (7 - (lg_sl ([.ref (ad this), .ref (ad p0), .int p1, .int p2, .ref (ad p3), .int p4])).length) Slot.unset).toArray = ls at hl ⊢
  exact bm_X1_standsAt this p0 p1 p2 p3 p4 hk_this hk_p0 hk_p3 r hr hx hb hml hown hts hA hK hW hT hP hD hS hl (fun pc ls rz ws H locs he hz hd hW hT hP hD hS => by cases he; exact W.zret (v := r) hx hb hrt (z_nb hz) (fun t ht hW9 => ⟨⟨r, ws, rfl, ⟨rfl, hW, hT⟩, by rw [ht]; exact hP, va_K.moved hW9.alike hK, hD⟩, hS.F ht⟩) hS.2.2 hd)
set_option maxHeartbeats 4000000 in
set_option maxRecDepth 100000 in
theorem bm_J7_fill_53178_107 {p : Program} {l : Launch} {e : Env} {s : State} {m : MethodId} {args : Array Value} {below : List Frame} {meth : Method} {c : Code} {Q : State → Prop} {A : Nat → Prop} {dC : Nat → ClassId} {dI : Nat → Nat → Nat} {kk : Nat → ClassId} {ad : Nat → Nat} {ws : va_W} {G : Nat → Nat → Int32} {P : Nat → Nat → Option Nat} {U : Nat → Nat → Int64} {V : Nat → Nat → Nat → Int32} {X : Nat → Nat → Nat → Int64} {O : Nat → Nat → Nat → Option Nat} {kd : Nat → Nat} {ln : Nat → Nat} {cnt : Nat} {H : Heap} {locs : List Loc} {ls : Array Slot} (p0 : Nat) (p1 : Int32) (hk_p0 : kd p0 = 107) (c_V7 : Nat → Nat → Int32) (hr : f_J7_fill_53178_107 G P U V X O kd ln cnt p0 p1 = some c_V7) (hx : p.tables.exec = Jvm.exec) (hb : c.code = cJ7_fill_53178) (hml : c.maxLocals = 4) (hown : s.vm.findClass RJ7 = some m.cls) (hts : ∀ w ∈ vmJ7_fill_53178, w.before args s = true) (hA : ∀ q : Nat, s.heap.size ≤ q → A q) (hK : va_K (dC, dI) vwCl (cT kk) s) (hW : LW ws ad kk kd ln G P U V X O) (hT : TYP kd P O (V 0) cnt) (hP : va_P (dC, dI) vwCl ws H) (hD : va_D A ws) (hS : va_S A s.heap H locs) (hl : lv_has ls 4 [(0, .ref (ad p0)), (1, .int p1)])
    (K : ∀ (pc : Nat) (ls : Array Slot) (c_V7z : Nat → Nat → Int32) (ws : va_W) (H : Heap) (locs : List Loc), some c_V7z = some c_V7 → decode cJ7_fill_53178 pc = .ok (.return_, 1) → LW ws ad kk kd ln G P U (va_up V 7 c_V7z) X O → TYP kd P O (V 0) cnt → va_P (dC, dI) vwCl ws H → va_D A ws → va_S A s.heap H locs → W p l e ({ frames := 2, cells := 0, slots := 0, locals := 60 } : Room) s m args below meth c H locs 0 0 Q (F0 m pc ls [])) : W p l e ({ frames := 2, cells := 0, slots := 0, locals := 60 } : Room) s m args below meth c H locs 0 0 Q (F0 m 0 ls []) := by
  unfold f_J7_fill_53178_107 at hr
  refine lv_iconst (v := 0) hx hb dJ7_fill_53178_0 (by decide +kernel) ?_
  refine lv_istore_n (lv' := [(2, .int 0), (0, .ref (ad p0)), (1, .int p1)]) hx hb dJ7_fill_53178_1 rfl hl (by decide) rfl (fun ls hl => ?_)
  refine lv_aload_n hx hb dJ7_fill_53178_2 rfl (lv_at hl 1 rfl) ?_
  obtain ⟨i1, hi1⟩ := hW.v7 hk_p0
  refine va_alen (v := (Int32.ofNat (ln p0))) hx hb hK hP i1 1 hi1 rfl rfl dJ7_fill_53178_3 ?_
  refine lv_topi (fun x4 ex4 => ?_)
  replace hr := vlS hr x4 ex4
  clear ex4
  refine lv_istore_n (lv' := [(3, .int x4), (2, .int 0), (0, .ref (ad p0)), (1, .int p1)]) hx hb dJ7_fill_53178_4 rfl hl (by decide) rfl (fun ls hl => ?_)
  have lp5 : ∀ (n5 : Nat), ∀ (y5_2 : Int32) (d5_V7 : Nat → Nat → Int32) (ws : va_W) (H : Heap) (locs : List Loc) (ls : Array Slot), L_J7_fill_53178_107_5 ln p0 p1 x4 n5 y5_2 d5_V7 = some c_V7 → LW ws ad kk kd ln G P U (va_up V 7 d5_V7) X O → TYP kd P O (V 0) cnt → va_P (dC, dI) vwCl ws H → va_D A ws → va_S A s.heap H locs → lv_has ls 4 [(0, .ref (ad p0)), (1, .int p1), (2, .int y5_2), (3, .int x4)] → W p l e ({ frames := 2, cells := 0, slots := 0, locals := 60 } : Room) s m args below meth c H locs 0 0 Q (F0 m 5 ls []) := by
    intro n5
    induction n5 with
    | zero => intro y5_2 d5_V7 ws H locs ls hr hW hT hP hD hS hl; exact nomatch (show none = some c_V7 from hr)
    | succ n5 ih5 =>
      intro y5_2 d5_V7 ws H locs ls hr hW hT hP hD hS hl
      replace hr : B_J7_fill_53178_107_5 ln p0 p1 x4 (L_J7_fill_53178_107_5 ln p0 p1 x4 n5) y5_2 d5_V7 = some c_V7 := hr
      unfold B_J7_fill_53178_107_5 at hr
      refine lv_iload_n hx hb dJ7_fill_53178_5 rfl (lv_at hl 2 rfl) ?_
      refine lv_iload_n hx hb dJ7_fill_53178_6 rfl (lv_at hl 3 rfl) ?_
      refine lv_icmp_ge (tgt := 20) hx hb dJ7_fill_53178_7 (by decide) (fun c7 => ?_) (fun c7 => ?_)
      · replace hr := iteT c7 hr
        exact K 20 ls _ ws H _ hr dJ7_fill_53178_20 hW hT hP hD hS
      · replace hr := iteF c7 hr
        refine lv_aload_n hx hb dJ7_fill_53178_10 rfl (lv_at hl 0 rfl) ?_
        refine lv_iload_n hx hb dJ7_fill_53178_11 rfl (lv_at hl 2 rfl) ?_
        refine lv_iload_n hx hb dJ7_fill_53178_12 rfl (lv_at hl 1 rfl) ?_
        obtain ⟨i2, hi2⟩ := hW.v7 hk_p0
        replace hr := iteS hr
        obtain ⟨hi13, hr⟩ := hr
        refine va_iast (f := (d5_V7 p0)) hx hb hK hP hD hS i2 1 hi2 rfl (inbV hi13) dJ7_fill_53178_13 (fun H locs hP2 hD2 hS => ?_)
        obtain ⟨m13, w3, em13, hP, hD, hW⟩ : ∃ (z : Nat → Nat → Int32) (w : va_W), z = (va_up d5_V7 p0 (upd (d5_V7 p0) (Int32.toNatClampNeg y5_2) p1)) ∧ va_P (dC, dI) vwCl w H ∧ va_D A w ∧ LW w ad kk kd ln G P U (va_up (va_up V 7 d5_V7) 7 z) X O := ⟨_, _, rfl, hP2, hD2, hW.setV hD hi2 (by rw [hk_p0]; decide) 7 (upd (d5_V7 p0) (Int32.toNatClampNeg y5_2) p1) (by rw [hk_p0]; rfl)⟩
        replace hr := vlS hr m13 em13
        clear em13
        refine lv_iinc (v := (y5_2 + 1)) (lv' := [(2, .int (y5_2 + 1)), (0, .ref (ad p0)), (1, .int p1), (3, .int x4)]) hx hb dJ7_fill_53178_14 hl (k := 2) rfl rfl (by decide) rfl (fun ls hl => ?_)
        refine lv_goto (tgt := 5) hx hb dJ7_fill_53178_17 (by decide) ?_
        have eV : (va_up (va_up V 7 d5_V7) 7 m13) = (va_up V 7 m13) := by
          funext k
          by_cases h7 : k = 7
          · subst h7; rfl
          · simp only [va_up, h7, if_false]
        rw [eV] at hW
        clear eV
        exact ih5 (y5_2 + 1) m13 w3 H _ ls hr hW hT hP hD hS (lv_sub hl [1, 2, 0, 3] rfl)
  have eV : V = (va_up V 7 (V 7)) := by
    funext k
    by_cases h7 : k = 7
    · subst h7; rfl
    · simp only [va_up, h7, if_false]
  rw [eV] at hW
  clear eV
  exact lp5 NN 0 (V 7) ws H _ ls hr hW hT hP hD hS (lv_sub hl [2, 3, 1, 0] rfl)
set_option maxHeartbeats 4000000 in
set_option maxRecDepth 100000 in
theorem m_J7_fill_53178_107 (l : Launch) (dC : Nat → ClassId) (dI : Nat → Nat → Nat) (kk : Nat → ClassId) (ad : Nat → Nat) (sz : Nat) (ws : va_W) (G : Nat → Nat → Int32) (P : Nat → Nat → Option Nat) (U : Nat → Nat → Int64) (V : Nat → Nat → Nat → Int32) (X : Nat → Nat → Nat → Int64) (O : Nat → Nat → Nat → Option Nat) (kd : Nat → Nat) (ln : Nat → Nat) (cnt : Nat) (p0 : Nat) (p1 : Int32) (hk_p0 : kd p0 = 107) (hW : LW ws ad kk kd ln G P U V X O) (hT : TYP kd P O (V 0) cnt) (c_V7 : Nat → Nat → Int32) (hr : f_J7_fill_53178_107 G P U V X O kd ln cnt p0 p1 = some c_V7) : Met l yJ7_fill_53178 vmJ7_fill_53178 ({ frames := 2, cells := 0, slots := 0, locals := 60 } : Room) (va_Pc [.ref (ad p0), .int p1] (fun U => U.heap.size = sz ∧ va_P (dC, dI) vwCl ws U.heap ∧ va_K (dC, dI) vwCl (cT kk) U ∧ va_D (fun _ => True) ws)) (va_Qv (fun w => LW w ad kk kd ln G P U (va_up V 7 c_V7) X O ∧ TYP kd P O (V 0) cnt) (fun w t => va_P (dC, dI) vwCl w t.heap ∧ va_K (dC, dI) vwCl (cT kk) t ∧ va_D (va_A ws sz) w) (va_A ws sz)) 0 0 (va_A ws sz) := by
  refine Met.ofW (cc := cJ7_fill_53178) (maxL := 4) (ret := none) (by decide) rfl ?_
  intro p e s m args below meth c s₁ B hml hv
  obtain ⟨rfl, hsz, hP, hK, hD0⟩ := hv
  have hx := B.exec
  have hb := B.bytes
  have hrt := B.returns
  have hts := atoms_spec (ws := vmJ7_fill_53178) B.pre
  have hown : s.vm.findClass RJ7 = some m.cls := findClass_of_methodNamed B.named
  subst hsz
  have hD := hD0.self (sz := s.heap.size)
  generalize hAe : va_A ws s.heap.size = A at hD ⊢
  have hA : ∀ q : Nat, s.heap.size ≤ q → A q := fun q h => by rw [← hAe]; exact Or.inr h
  have hS : va_S A s.heap s.heap [] := va_S.rf
  have hl := lv_entry ([.ref (ad p0), .int p1]) (n := 4) (Nat.le_of_ble_eq_true rfl)
  rw [lg_entry_eq]
  generalize (lg_sl ([.ref (ad p0), .int p1]) ++ List.replicate (4 - (lg_sl ([.ref (ad p0), .int p1])).length) Slot.unset).toArray = ls at hl ⊢
  exact bm_J7_fill_53178_107 p0 p1 hk_p0 c_V7 hr hx hb hml hown hts hA hK hW hT hP hD hS hl (fun pc ls c_V7z ws H locs he hd hW hT hP hD hS => by cases he; exact W.vret hx hb hrt (fun t ht hW9 => ⟨⟨ws, rfl, ⟨hW, hT⟩, by rw [ht]; exact hP, va_K.moved hW9.alike hK, hD⟩, hS.F ht⟩) hS.2.2 hd)
set_option maxHeartbeats 4000000 in
set_option maxRecDepth 100000 in
theorem bm_X2_begin {p : Program} {l : Launch} {e : Env} {s : State} {m : MethodId} {args : Array Value} {below : List Frame} {meth : Method} {c : Code} {Q : State → Prop} {A : Nat → Prop} {dC : Nat → ClassId} {dI : Nat → Nat → Nat} {kk : Nat → ClassId} {ad : Nat → Nat} {ws : va_W} {G : Nat → Nat → Int32} {P : Nat → Nat → Option Nat} {U : Nat → Nat → Int64} {V : Nat → Nat → Nat → Int32} {X : Nat → Nat → Nat → Int64} {O : Nat → Nat → Nat → Option Nat} {kd : Nat → Nat} {ln : Nat → Nat} {cnt : Nat} {H : Heap} {locs : List Loc} {ls : Array Slot} (this : Nat) (p0 : Int32) (p1 : Int32) (hk_this : kd this = 3) (c_G44 : Nat → Int32) (c_G45 : Nat → Int32) (c_V7 : Nat → Nat → Int32) (hr : f_X2_begin G P U V X O kd ln cnt this p0 p1 = some (c_G44, c_G45, c_V7)) (hx : p.tables.exec = Jvm.exec) (hb : c.code = cX2_begin) (hml : c.maxLocals = 3) (hown : s.vm.findClass RX2 = some m.cls) (hts : ∀ w ∈ vmX2_begin, w.before args s = true) (hA : ∀ q : Nat, s.heap.size ≤ q → A q) (hK : va_K (dC, dI) vwCl (cT kk) s) (hW : LW ws ad kk kd ln G P U V X O) (hT : TYP kd P O (V 0) cnt) (hP : va_P (dC, dI) vwCl ws H) (hD : va_D A ws) (hS : va_S A s.heap H locs) (hl : lv_has ls 3 [(0, .ref (ad this)), (1, .int p0), (2, .int p1)])
    (K : ∀ (pc : Nat) (ls : Array Slot) (c_G44z : Nat → Int32) (c_G45z : Nat → Int32) (c_V7z : Nat → Nat → Int32) (ws : va_W) (H : Heap) (locs : List Loc), some (c_G44z, c_G45z, c_V7z) = some (c_G44, c_G45, c_V7) → decode cX2_begin pc = .ok (.return_, 1) → LW ws ad kk kd ln (va_up (va_up G 44 c_G44z) 45 c_G45z) P U (va_up V 7 c_V7z) X O → TYP kd P O (V 0) cnt → va_P (dC, dI) vwCl ws H → va_D A ws → va_S A s.heap H locs → W p l e ({ frames := 3, cells := 0, slots := 0, locals := 90 } : Room) s m args below meth c H locs 0 0 Q (F0 m pc ls [])) : W p l e ({ frames := 3, cells := 0, slots := 0, locals := 90 } : Room) s m args below meth c H locs 0 0 Q (F0 m 0 ls []) := by
  unfold f_X2_begin at hr
  refine lv_aload_n hx hb dX2_begin_0 rfl (lv_at hl 0 rfl) ?_
  refine lv_iload_n hx hb dX2_begin_1 rfl (lv_at hl 1 rfl) ?_
  refine lv_bipush (v := 40) hx hb dX2_begin_2 (by decide +kernel) ?_
  refine va_mmin hx hb (by rw [hml]; exact hl.1.symm) hown (hts (.methodLink RX2 31 Lib.Math.min.name) ic_196) (hts (.static Lib.Math.min.name) ic_197) (hts (.initialized "java/lang/Math") ic_198) (hts (.code Lib.Math.min.name Lib.Math.min.code 2 (some .int)) ic_199) (Nat.le_of_ble_eq_true rfl) (Nat.le_of_ble_eq_true rfl) (Nat.le_of_ble_eq_true rfl) (Nat.le_of_ble_eq_true rfl) dX2_begin_4 ?_
  refine lv_topi (fun x7 ex7 => ?_)
  replace hr := vlS hr x7 ex7
  clear ex7
  obtain ⟨i1, hi1⟩ := hW.o2 hk_this
  refine va_put (D := (dC, dI)) (ci := 2) (v := .int x7) (ty := .int) (C := RX2) (T := TX2) (N := 6) hx hb hts inX2 tyX2 tyX2_ok nmX2 hown hK hP hD hS i1 hi1 rfl 4 (by decide) (hts (.fieldLink RX2 25 "SpellTurner$Mixture" "lines" "I") ic_102) (fun _ h9 => h9) rfl (by decide +kernel) rfl rfl (Nat.le_of_ble_eq_true rfl) dX2_begin_7 (fun H locs hP2 hD2 hS => ?_)
  obtain ⟨m7, w2, em7, hP, hD, hW⟩ : ∃ (z : Nat → Int32) (w : va_W), z = (va_up (G 44) this x7) ∧ va_P (dC, dI) vwCl w H ∧ va_D A w ∧ LW w ad kk kd ln (va_up G 44 z) P U V X O := ⟨_, _, rfl, hP2, hD2, hW.setG hD hi1 (by rw [hk_this]; decide) 44 x7 (by rw [hk_this]; rfl)⟩
  replace hr := vlS hr m7 em7
  clear em7
  refine lv_aload_n hx hb dX2_begin_10 rfl (lv_at hl 0 rfl) ?_
  refine lv_iload_n hx hb dX2_begin_11 rfl (lv_at hl 2 rfl) ?_
  refine lv_bipush (v := 7) hx hb dX2_begin_12 (by decide +kernel) ?_
  refine va_mmin hx hb (by rw [hml]; exact hl.1.symm) hown (hts (.methodLink RX2 31 Lib.Math.min.name) ic_196) (hts (.static Lib.Math.min.name) ic_197) (hts (.initialized "java/lang/Math") ic_198) (hts (.code Lib.Math.min.name Lib.Math.min.code 2 (some .int)) ic_199) (Nat.le_of_ble_eq_true rfl) (Nat.le_of_ble_eq_true rfl) (Nat.le_of_ble_eq_true rfl) (Nat.le_of_ble_eq_true rfl) dX2_begin_14 ?_
  refine lv_topi (fun x17 ex17 => ?_)
  replace hr := vlS hr x17 ex17
  clear ex17
  obtain ⟨i3, hi3⟩ := hW.o2 hk_this
  refine va_put (D := (dC, dI)) (ci := 2) (v := .int x17) (ty := .int) (C := RX2) (T := TX2) (N := 6) hx hb hts inX2 tyX2 tyX2_ok nmX2 hown hK hP hD hS i3 hi3 rfl 5 (by decide) (hts (.fieldLink RX2 28 "SpellTurner$Mixture" "stages" "I") ic_103) (fun _ h9 => h9) rfl (by decide +kernel) rfl rfl (Nat.le_of_ble_eq_true rfl) dX2_begin_17 (fun H locs hP2 hD2 hS => ?_)
  obtain ⟨m17, w4, em17, hP, hD, hW⟩ : ∃ (z : Nat → Int32) (w : va_W), z = (va_up (G 45) this x17) ∧ va_P (dC, dI) vwCl w H ∧ va_D A w ∧ LW w ad kk kd ln (va_up (va_up G 44 m7) 45 z) P U V X O := ⟨_, _, rfl, hP2, hD2, hW.setG hD hi3 (by rw [hk_this]; decide) 45 x17 (by rw [hk_this]; rfl)⟩
  replace hr := vlS hr m17 em17
  clear em17
  refine lv_aload_n hx hb dX2_begin_20 rfl (lv_at hl 0 rfl) ?_
  obtain ⟨i5, hi5⟩ := hW.o2 hk_this
  replace hr := nnS hr
  obtain ⟨a21, hn21, hr⟩ := hr
  have hk_a21 : kd a21 = 107 := hT.1 40 _ _ hn21
  refine va_get (D := (dC, dI)) (ci := 2) (v := .ref (ad a21)) (C := RX2) (T := TX2) (N := 6) hx hb hts inX2 hown hK hP i5 hi5 rfl 0 (by decide) (hts (.fieldLink RX2 9 "SpellTurner$Mixture" "costs" "[I") ic_104) (fun _ h9 => h9) (congrArg (fun o => some (va_re ad o)) hn21) dX2_begin_21 ?_
  refine lv_iconst (v := 0) hx hb dX2_begin_24 (by decide +kernel) ?_
  replace hr := b1S hr
  obtain ⟨c25_V7, hc25, hr⟩ := hr
  have hFc := fr_all hD hS hA
  refine va_callv (va_runS (As := [.ref (ad a21), .int 0]) (rest := []) ⟨hx, hb, hml, hown, hts⟩ (m_J7_fill_53178_107 l dC dI kk ad H.size w4 (va_up (va_up G 44 m7) 45 m17) P U V X O kd ln cnt a21 0 hk_a21 hW hT c25_V7 hc25) (va_cwS 2 hts gc_RX2_J7_fill_53178_37 rfl rfl rfl (by decide +kernel) ⟨Nat.le_of_ble_eq_true rfl, Nat.le_of_ble_eq_true rfl⟩) ⟨fun a U g mk q => by obtain ⟨q0, q1, qP, qK, qD⟩ := q; exact ⟨q0, q1, qP, va_K.moved (u := U) (U := U.calling g mk a) (Vm.Alike.refl U.vm) qK, qD⟩, fun U hU hW => ⟨rfl, by rw [hU], by rw [hU]; exact hP, va_K.moved hW.alike hK, hD.weaken (fun _ _ _ _ => trivial)⟩⟩ rfl rfl hl.1 rfl (lv_room (Nat.le_of_ble_eq_true rfl)) dX2_begin_25 ⟨Nat.le_of_ble_eq_true rfl, Nat.le_of_ble_eq_true rfl⟩) hS (fun q _ h => hFc q h) hFc (fun w6 t H1 locs ht hvm hw hB hz1 hk1 hS => ?_)
  obtain ⟨hW, hT⟩ := hw
  obtain ⟨hP1, hK1, hD1⟩ := hB
  rw [ht] at hP1
  obtain ⟨hP, hD⟩ := jn_all (w1 := w6) hFc hP1 hD1
  replace hP : va_P (dC, dI) vwCl w6 H1 := hP
  replace hD : va_D A w6 := hD
  clear hFc hP1 hK1 hD1 hk1 hz1 ht hvm
  generalize H1 = H at hP hS ⊢
  exact K 28 ls _ _ _ w6 H _ hr dX2_begin_28 hW hT hP hD hS
set_option maxHeartbeats 4000000 in
set_option maxRecDepth 100000 in
theorem m_X2_begin (l : Launch) (dC : Nat → ClassId) (dI : Nat → Nat → Nat) (kk : Nat → ClassId) (ad : Nat → Nat) (sz : Nat) (ws : va_W) (G : Nat → Nat → Int32) (P : Nat → Nat → Option Nat) (U : Nat → Nat → Int64) (V : Nat → Nat → Nat → Int32) (X : Nat → Nat → Nat → Int64) (O : Nat → Nat → Nat → Option Nat) (kd : Nat → Nat) (ln : Nat → Nat) (cnt : Nat) (this : Nat) (p0 : Int32) (p1 : Int32) (hk_this : kd this = 3) (hW : LW ws ad kk kd ln G P U V X O) (hT : TYP kd P O (V 0) cnt) (c_G44 : Nat → Int32) (c_G45 : Nat → Int32) (c_V7 : Nat → Nat → Int32) (hr : f_X2_begin G P U V X O kd ln cnt this p0 p1 = some (c_G44, c_G45, c_V7)) : Met l yX2_begin vmX2_begin ({ frames := 3, cells := 0, slots := 0, locals := 90 } : Room) (va_Pc [.ref (ad this), .int p0, .int p1] (fun U => U.heap.size = sz ∧ va_P (dC, dI) vwCl ws U.heap ∧ va_K (dC, dI) vwCl (cT kk) U ∧ va_D (fun _ => True) ws)) (va_Qv (fun w => LW w ad kk kd ln (va_up (va_up G 44 c_G44) 45 c_G45) P U (va_up V 7 c_V7) X O ∧ TYP kd P O (V 0) cnt) (fun w t => va_P (dC, dI) vwCl w t.heap ∧ va_K (dC, dI) vwCl (cT kk) t ∧ va_D (va_A ws sz) w) (va_A ws sz)) 0 0 (va_A ws sz) := by
  refine Met.ofW (cc := cX2_begin) (maxL := 3) (ret := none) (by decide) rfl ?_
  intro p e s m args below meth c s₁ B hml hv
  obtain ⟨rfl, hsz, hP, hK, hD0⟩ := hv
  have hx := B.exec
  have hb := B.bytes
  have hrt := B.returns
  have hts := atoms_spec (ws := vmX2_begin) B.pre
  have hown : s.vm.findClass RX2 = some m.cls := findClass_of_methodNamed B.named
  subst hsz
  have hD := hD0.self (sz := s.heap.size)
  generalize hAe : va_A ws s.heap.size = A at hD ⊢
  have hA : ∀ q : Nat, s.heap.size ≤ q → A q := fun q h => by rw [← hAe]; exact Or.inr h
  have hS : va_S A s.heap s.heap [] := va_S.rf
  have hl := lv_entry ([.ref (ad this), .int p0, .int p1]) (n := 3) (Nat.le_of_ble_eq_true rfl)
  rw [lg_entry_eq]
  generalize (lg_sl ([.ref (ad this), .int p0, .int p1]) ++ List.replicate (3 - (lg_sl ([.ref (ad this), .int p0, .int p1])).length) Slot.unset).toArray = ls at hl ⊢
  exact bm_X2_begin this p0 p1 hk_this c_G44 c_G45 c_V7 hr hx hb hml hown hts hA hK hW hT hP hD hS hl (fun pc ls c_G44z c_G45z c_V7z ws H locs he hd hW hT hP hD hS => by cases he; exact W.vret hx hb hrt (fun t ht hW9 => ⟨⟨ws, rfl, ⟨hW, hT⟩, by rw [ht]; exact hP, va_K.moved hW9.alike hK, hD⟩, hS.F ht⟩) hS.2.2 hd)
set_option maxHeartbeats 4000000 in
set_option maxRecDepth 100000 in
theorem bm_X2_cost {p : Program} {l : Launch} {e : Env} {s : State} {m : MethodId} {args : Array Value} {below : List Frame} {meth : Method} {c : Code} {Q : State → Prop} {A : Nat → Prop} {dC : Nat → ClassId} {dI : Nat → Nat → Nat} {kk : Nat → ClassId} {ad : Nat → Nat} {ws : va_W} {G : Nat → Nat → Int32} {P : Nat → Nat → Option Nat} {U : Nat → Nat → Int64} {V : Nat → Nat → Nat → Int32} {X : Nat → Nat → Nat → Int64} {O : Nat → Nat → Nat → Option Nat} {kd : Nat → Nat} {ln : Nat → Nat} {cnt : Nat} {H : Heap} {locs : List Loc} {ls : Array Slot} (this : Nat) (p0 : Int32) (p1 : Int32) (p2 : Int32) (p3 : Int32) (hk_this : kd this = 3) (r : Int32) (hr : f_X2_cost G P U V X O kd ln cnt this p0 p1 p2 p3 = some r) (hx : p.tables.exec = Jvm.exec) (hb : c.code = cX2_cost) (hml : c.maxLocals = 6) (hown : s.vm.findClass RX2 = some m.cls) (hts : ∀ w ∈ vmX2_cost, w.before args s = true) (hA : ∀ q : Nat, s.heap.size ≤ q → A q) (hK : va_K (dC, dI) vwCl (cT kk) s) (hW : LW ws ad kk kd ln G P U V X O) (hT : TYP kd P O (V 0) cnt) (hP : va_P (dC, dI) vwCl ws H) (hD : va_D A ws) (hS : va_S A s.heap H locs) (hl : lv_has ls 6 [(0, .ref (ad this)), (1, .int p0), (2, .int p1), (3, .int p2), (4, .int p3)])
    (K : ∀ (pc : Nat) (ls : Array Slot) (rz : Int32) (ws : va_W) (H : Heap) (locs : List Loc), some rz = some r → decode cX2_cost pc = .ok (.ireturn, 1) → LW ws ad kk kd ln G P U V X O → TYP kd P O (V 0) cnt → va_P (dC, dI) vwCl ws H → va_D A ws → va_S A s.heap H locs → W p l e ({ frames := 2, cells := 0, slots := 0, locals := 60 } : Room) s m args below meth c H locs 0 0 Q (F0 m pc ls [.int rz])) : W p l e ({ frames := 2, cells := 0, slots := 0, locals := 60 } : Room) s m args below meth c H locs 0 0 Q (F0 m 0 ls []) := by
  unfold f_X2_cost at hr
  refine lv_iload_n hx hb dX2_cost_0 rfl (lv_at hl 3 rfl) ?_
  refine lv_iconst (v := (-1)) hx hb dX2_cost_1 (by decide +kernel) ?_
  replace hr := jnS hr
  obtain ⟨j15, hj15, hr⟩ := hr
  have Jj15 : ∀ (t15_0 : Int32) (ws : va_W) (H : Heap) (locs : List Loc) (ls : Array Slot), j15 t15_0 = some r → LW ws ad kk kd ln G P U V X O → TYP kd P O (V 0) cnt → va_P (dC, dI) vwCl ws H → va_D A ws → va_S A s.heap H locs → lv_has ls 6 [(0, .ref (ad this)), (1, .int p0), (2, .int p1), (4, .int p3)] → W p l e ({ frames := 2, cells := 0, slots := 0, locals := 60 } : Room) s m args below meth c H locs 0 0 Q (F0 m 15 ls [.int t15_0]) := by
    intro t15_0 ws H locs ls hr hW hT hP hD hS hl
    rw [hj15] at hr
    refine lv_istore (lv' := [(5, .int t15_0), (0, .ref (ad this)), (1, .int p0), (2, .int p1), (4, .int p3)]) hx hb dX2_cost_15 hl (by decide) rfl (fun ls hl => ?_)
    refine lv_aload_n hx hb dX2_cost_17 rfl (lv_at hl 1 rfl) ?_
    obtain ⟨i1, hi1⟩ := hW.o2 hk_this
    replace hr := nnS hr
    obtain ⟨a18, hn18, hr⟩ := hr
    have hk_a18 : kd a18 = 108 := hT.1 41 _ _ hn18
    refine va_get (D := (dC, dI)) (ci := 2) (v := .ref (ad a18)) (C := RX2) (T := TX2) (N := 6) hx hb hts inX2 hown hK hP i1 hi1 rfl 1 (by decide) (hts (.fieldLink RX2 15 "SpellTurner$Mixture" "least" "[I") ic_204) (fun _ h9 => h9) (congrArg (fun o => some (va_re ad o)) hn18) dX2_cost_18 ?_
    refine lv_iload_n hx hb dX2_cost_21 rfl (lv_at hl 2 rfl) ?_
    refine lv_bipush (v := 7) hx hb dX2_cost_22 (by decide +kernel) ?_
    refine lv_imul hx hb dX2_cost_24 ?_
    refine lv_iload_n hx hb dX2_cost_25 rfl (lv_at hl 3 rfl) ?_
    refine lv_iadd hx hb dX2_cost_26 ?_
    obtain ⟨i2, hi2⟩ := hW.v8 hk_a18
    replace hr := iteS hr
    obtain ⟨hi27, hr⟩ := hr
    refine va_iald (f := ((V 8) a18)) hx hb hK hP i2 1 hi2 rfl (inbV hi27) dX2_cost_27 ?_
    refine lv_iload hx hb dX2_cost_28 (lv_at hl 0 rfl) ?_
    replace hr := jnS hr
    obtain ⟨j39, hj39, hr⟩ := hr
    have Jj39 : ∀ (t39_0 : Int32) (ws : va_W) (H : Heap) (locs : List Loc) (ls : Array Slot), j39 t39_0 = some r → LW ws ad kk kd ln G P U V X O → TYP kd P O (V 0) cnt → va_P (dC, dI) vwCl ws H → va_D A ws → va_S A s.heap H locs → lv_has ls 6 [] → W p l e ({ frames := 2, cells := 0, slots := 0, locals := 60 } : Room) s m args below meth c H locs 0 0 Q (F0 m 39 ls [.int t39_0, .int (((V 8) a18) (Int32.toNatClampNeg ((p0 * 7) + p1)))]) := by
      intro t39_0 ws H locs ls hr hW hT hP hD hS hl
      rw [hj39] at hr
      refine lv_iadd hx hb dX2_cost_39 ?_
      exact K 40 ls _ ws H _ hr dX2_cost_40 hW hT hP hD hS
    refine lv_if_eq (tgt := 38) hx hb dX2_cost_30 (by decide) (fun c30 => ?_) (fun c30 => ?_)
    · replace hr := iteT c30 hr
      refine lv_iconst (v := 0) hx hb dX2_cost_38 (by decide +kernel) ?_
      exact Jj39 0 ws H _ ls hr hW hT hP hD hS (lv_sub hl [] rfl)
    · replace hr := iteF c30 hr
      refine lv_iload hx hb dX2_cost_33 (lv_at hl 4 rfl) ?_
      refine lv_goto (tgt := 39) hx hb dX2_cost_35 (by decide) ?_
      exact Jj39 p3 ws H _ ls hr hW hT hP hD hS (lv_sub hl [] rfl)
  replace hr := jnS hr
  obtain ⟨j14, hj14, hr⟩ := hr
  have Jj14 : ∀ (ws : va_W) (H : Heap) (locs : List Loc) (ls : Array Slot), j14 () = some r → LW ws ad kk kd ln G P U V X O → TYP kd P O (V 0) cnt → va_P (dC, dI) vwCl ws H → va_D A ws → va_S A s.heap H locs → lv_has ls 6 [(0, .ref (ad this)), (1, .int p0), (2, .int p1), (4, .int p3)] → W p l e ({ frames := 2, cells := 0, slots := 0, locals := 60 } : Room) s m args below meth c H locs 0 0 Q (F0 m 14 ls []) := by
    intro ws H locs ls hr hW hT hP hD hS hl
    rw [hj14] at hr
    refine lv_iconst (v := 0) hx hb dX2_cost_14 (by decide +kernel) ?_
    exact Jj15 0 ws H _ ls hr hW hT hP hD hS (lv_sub hl [0, 1, 2, 3] rfl)
  refine lv_icmp_eq (tgt := 14) hx hb dX2_cost_2 (by decide) (fun c2 => ?_) (fun c2 => ?_)
  · replace hr := iteT c2 hr
    exact Jj14 ws H _ ls hr hW hT hP hD hS (lv_sub hl [0, 1, 2, 4] rfl)
  · replace hr := iteF c2 hr
    refine lv_iload_n hx hb dX2_cost_5 rfl (lv_at hl 3 rfl) ?_
    refine lv_iload_n hx hb dX2_cost_6 rfl (lv_at hl 2 rfl) ?_
    refine lv_icmp_eq (tgt := 14) hx hb dX2_cost_7 (by decide) (fun c7 => ?_) (fun c7 => ?_)
    · replace hr := iteT c7 hr
      exact Jj14 ws H _ ls hr hW hT hP hD hS (lv_sub hl [0, 1, 2, 4] rfl)
    · replace hr := iteF c7 hr
      refine lv_iconst (v := 1) hx hb dX2_cost_10 (by decide +kernel) ?_
      refine lv_goto (tgt := 15) hx hb dX2_cost_11 (by decide) ?_
      exact Jj15 1 ws H _ ls hr hW hT hP hD hS (lv_sub hl [0, 1, 2, 4] rfl)
set_option maxHeartbeats 4000000 in
set_option maxRecDepth 100000 in
theorem m_X2_cost (l : Launch) (dC : Nat → ClassId) (dI : Nat → Nat → Nat) (kk : Nat → ClassId) (ad : Nat → Nat) (sz : Nat) (ws : va_W) (G : Nat → Nat → Int32) (P : Nat → Nat → Option Nat) (U : Nat → Nat → Int64) (V : Nat → Nat → Nat → Int32) (X : Nat → Nat → Nat → Int64) (O : Nat → Nat → Nat → Option Nat) (kd : Nat → Nat) (ln : Nat → Nat) (cnt : Nat) (this : Nat) (p0 : Int32) (p1 : Int32) (p2 : Int32) (p3 : Int32) (hk_this : kd this = 3) (hW : LW ws ad kk kd ln G P U V X O) (hT : TYP kd P O (V 0) cnt) (r : Int32) (hr : f_X2_cost G P U V X O kd ln cnt this p0 p1 p2 p3 = some r) : Met l yX2_cost vmX2_cost ({ frames := 2, cells := 0, slots := 0, locals := 60 } : Room) (va_Pc [.ref (ad this), .int p0, .int p1, .int p2, .int p3] (fun U => U.heap.size = sz ∧ va_P (dC, dI) vwCl ws U.heap ∧ va_K (dC, dI) vwCl (cT kk) U ∧ va_D (fun _ => True) ws)) (va_Qi (fun (rz : Int32) (w : va_W) => rz = r ∧ LW w ad kk kd ln G P U V X O ∧ TYP kd P O (V 0) cnt) (fun w t => va_P (dC, dI) vwCl w t.heap ∧ va_K (dC, dI) vwCl (cT kk) t ∧ va_D (va_A ws sz) w) (va_A ws sz)) 0 0 (va_A ws sz) := by
  refine Met.ofW (cc := cX2_cost) (maxL := 6) (ret := (some .int)) (by decide) rfl ?_
  intro p e s m args below meth c s₁ B hml hv
  obtain ⟨rfl, hsz, hP, hK, hD0⟩ := hv
  have hx := B.exec
  have hb := B.bytes
  have hrt := B.returns
  have hts := atoms_spec (ws := vmX2_cost) B.pre
  have hown : s.vm.findClass RX2 = some m.cls := findClass_of_methodNamed B.named
  subst hsz
  have hD := hD0.self (sz := s.heap.size)
  generalize hAe : va_A ws s.heap.size = A at hD ⊢
  have hA : ∀ q : Nat, s.heap.size ≤ q → A q := fun q h => by rw [← hAe]; exact Or.inr h
  have hS : va_S A s.heap s.heap [] := va_S.rf
  have hl := lv_entry ([.ref (ad this), .int p0, .int p1, .int p2, .int p3]) (n := 6) (Nat.le_of_ble_eq_true rfl)
  rw [lg_entry_eq]
  generalize (lg_sl ([.ref (ad this), .int p0, .int p1, .int p2, .int p3]) ++ List.replicate (6 - (lg_sl ([.ref (ad this), .int p0, .int p1, .int p2, .int p3])).length) Slot.unset).toArray = ls at hl ⊢
  exact bm_X2_cost this p0 p1 p2 p3 hk_this r hr hx hb hml hown hts hA hK hW hT hP hD hS hl (fun pc ls rz ws H locs he hd hW hT hP hD hS => by cases he; exact W.iret (v := r) hx hb hrt (fun t ht hW9 => ⟨⟨r, ws, rfl, ⟨rfl, hW, hT⟩, by rw [ht]; exact hP, va_K.moved hW9.alike hK, hD⟩, hS.F ht⟩) hS.2.2 hd)
set_option maxHeartbeats 4000000 in
set_option maxRecDepth 100000 in
theorem bm_X2_cheapest {p : Program} {l : Launch} {e : Env} {s : State} {m : MethodId} {args : Array Value} {below : List Frame} {meth : Method} {c : Code} {Q : State → Prop} {A : Nat → Prop} {dC : Nat → ClassId} {dI : Nat → Nat → Nat} {kk : Nat → ClassId} {ad : Nat → Nat} {ws : va_W} {G : Nat → Nat → Int32} {P : Nat → Nat → Option Nat} {U : Nat → Nat → Int64} {V : Nat → Nat → Nat → Int32} {X : Nat → Nat → Nat → Int64} {O : Nat → Nat → Nat → Option Nat} {kd : Nat → Nat} {ln : Nat → Nat} {cnt : Nat} {H : Heap} {locs : List Loc} {ls : Array Slot} (this : Nat) (p0 : Int32) (p1 : Int32) (p2 : Int32) (hk_this : kd this = 3) (r : Int32) (hr : f_X2_cheapest G P U V X O kd ln cnt this p0 p1 p2 = some r) (hx : p.tables.exec = Jvm.exec) (hb : c.code = cX2_cheapest) (hml : c.maxLocals = 6) (hown : s.vm.findClass RX2 = some m.cls) (hts : ∀ w ∈ vmX2_cheapest, w.before args s = true) (hA : ∀ q : Nat, s.heap.size ≤ q → A q) (hK : va_K (dC, dI) vwCl (cT kk) s) (hW : LW ws ad kk kd ln G P U V X O) (hT : TYP kd P O (V 0) cnt) (hP : va_P (dC, dI) vwCl ws H) (hD : va_D A ws) (hS : va_S A s.heap H locs) (hl : lv_has ls 6 [(0, .ref (ad this)), (1, .int p0), (2, .int p1), (3, .int p2)])
    (K : ∀ (pc : Nat) (ls : Array Slot) (rz : Int32) (ws : va_W) (H : Heap) (locs : List Loc), some rz = some r → decode cX2_cheapest pc = .ok (.ireturn, 1) → LW ws ad kk kd ln G P U V X O → TYP kd P O (V 0) cnt → va_P (dC, dI) vwCl ws H → va_D A ws → va_S A s.heap H locs → W p l e ({ frames := 3, cells := 0, slots := 0, locals := 85 } : Room) s m args below meth c H locs 0 0 Q (F0 m pc ls [.int rz])) : W p l e ({ frames := 3, cells := 0, slots := 0, locals := 85 } : Room) s m args below meth c H locs 0 0 Q (F0 m 0 ls []) := by
  unfold f_X2_cheapest at hr
  refine lv_iconst (v := 0) hx hb dX2_cheapest_0 (by decide +kernel) ?_
  refine lv_istore (lv' := [(4, .int 0), (0, .ref (ad this)), (1, .int p0), (2, .int p1), (3, .int p2)]) hx hb dX2_cheapest_1 hl (by decide) rfl (fun ls hl => ?_)
  refine lv_iconst (v := 1) hx hb dX2_cheapest_3 (by decide +kernel) ?_
  refine lv_istore (lv' := [(5, .int 1), (4, .int 0), (0, .ref (ad this)), (1, .int p0), (2, .int p1), (3, .int p2)]) hx hb dX2_cheapest_4 hl (by decide) rfl (fun ls hl => ?_)
  have lp6 : ∀ (n6 : Nat), ∀ (y6_4 : Int32) (y6_5 : Int32) (ws : va_W) (H : Heap) (locs : List Loc) (ls : Array Slot), L_X2_cheapest_6 G P U V X O kd ln cnt this p0 p1 p2 n6 y6_4 y6_5 = some r → LW ws ad kk kd ln G P U V X O → TYP kd P O (V 0) cnt → va_P (dC, dI) vwCl ws H → va_D A ws → va_S A s.heap H locs → lv_has ls 6 [(0, .ref (ad this)), (1, .int p0), (2, .int p1), (3, .int p2), (4, .int y6_4), (5, .int y6_5)] → W p l e ({ frames := 3, cells := 0, slots := 0, locals := 85 } : Room) s m args below meth c H locs 0 0 Q (F0 m 6 ls []) := by
    intro n6
    induction n6 with
    | zero => intro y6_4 y6_5 ws H locs ls hr hW hT hP hD hS hl; exact nomatch (show none = some r from hr)
    | succ n6 ih6 =>
      intro y6_4 y6_5 ws H locs ls hr hW hT hP hD hS hl
      replace hr : B_X2_cheapest_6 G P U V X O kd ln cnt this p0 p1 p2 (L_X2_cheapest_6 G P U V X O kd ln cnt this p0 p1 p2 n6) y6_4 y6_5 = some r := hr
      unfold B_X2_cheapest_6 at hr
      refine lv_iload hx hb dX2_cheapest_6 (lv_at hl 5 rfl) ?_
      refine lv_aload_n hx hb dX2_cheapest_8 rfl (lv_at hl 0 rfl) ?_
      obtain ⟨i1, hi1⟩ := hW.o2 hk_this
      refine va_get (D := (dC, dI)) (ci := 2) (v := .int ((G 45) this)) (C := RX2) (T := TX2) (N := 6) hx hb hts inX2 hown hK hP i1 hi1 rfl 5 (by decide) (hts (.fieldLink RX2 28 "SpellTurner$Mixture" "stages" "I") ic_103) (fun _ h9 => h9) rfl dX2_cheapest_9 ?_
      refine lv_icmp_ge (tgt := 46) hx hb dX2_cheapest_12 (by decide) (fun c12 => ?_) (fun c12 => ?_)
      · replace hr := iteT c12 hr
        refine lv_iload hx hb dX2_cheapest_46 (lv_at hl 4 rfl) ?_
        exact K 48 ls _ ws H _ hr dX2_cheapest_48 hW hT hP hD hS
      · replace hr := iteF c12 hr
        refine lv_aload_n hx hb dX2_cheapest_15 rfl (lv_at hl 0 rfl) ?_
        refine lv_iload_n hx hb dX2_cheapest_16 rfl (lv_at hl 1 rfl) ?_
        refine lv_iload hx hb dX2_cheapest_17 (lv_at hl 5 rfl) ?_
        refine lv_iload_n hx hb dX2_cheapest_19 rfl (lv_at hl 2 rfl) ?_
        refine lv_iload_n hx hb dX2_cheapest_20 rfl (lv_at hl 3 rfl) ?_
        replace hr := b1S hr
        obtain ⟨r21z, hc21, hr⟩ := hr
        have hFc := fr_all hD hS hA
        obtain ⟨i2, hi2⟩ := hW.o2 hk_this
        refine va_calli (va_runV (As := [.int p0, .int y6_5, .int p1, .int p2]) (rest := []) ⟨hx, hb, hml, hown, hts⟩ (m_X2_cost l dC dI kk ad H.size ws G P U V X O kd ln cnt this p0 y6_5 p1 p2 hk_this hW hT r21z hc21) (cwV 4 hts gc_RX2_X2_cost_47 rfl rfl rfl (by decide +kernel) ⟨Nat.le_of_ble_eq_true rfl, Nat.le_of_ble_eq_true rfl⟩) ⟨fun a U g mk q => by obtain ⟨q0, q1, qP, qK, qD⟩ := q; exact ⟨q0, q1, qP, va_K.moved (u := U) (U := U.calling g mk a) (Vm.Alike.refl U.vm) qK, qD⟩, va_recv hK hP (ci := 2) (q0 := i2) rfl hi2, fun U hU hW => ⟨rfl, by rw [hU], by rw [hU]; exact hP, va_K.moved hW.alike hK, hD.weaken (fun _ _ _ _ => trivial)⟩⟩ rfl rfl hl.1 rfl (lv_room (Nat.le_of_ble_eq_true rfl)) dX2_cheapest_21 ⟨Nat.le_of_ble_eq_true rfl, Nat.le_of_ble_eq_true rfl⟩) hS (fun q _ h => hFc q h) hFc (fun r21 w3 t H1 locs ht hvm hw hB hz1 hk1 hS => ?_)
        obtain ⟨hw0, hW, hT⟩ := hw
        replace hw0 : r21 = r21z := hw0
        subst hw0
        obtain ⟨hP1, hK1, hD1⟩ := hB
        rw [ht] at hP1
        obtain ⟨hP, hD⟩ := jn_all (w1 := w3) hFc hP1 hD1
        replace hP : va_P (dC, dI) vwCl w3 H1 := hP
        replace hD : va_D A w3 := hD
        clear hFc hP1 hK1 hD1 hk1 hz1 ht hvm
        generalize H1 = H at hP hS ⊢
        refine lv_aload_n hx hb dX2_cheapest_24 rfl (lv_at hl 0 rfl) ?_
        refine lv_iload_n hx hb dX2_cheapest_25 rfl (lv_at hl 1 rfl) ?_
        refine lv_iload hx hb dX2_cheapest_26 (lv_at hl 4 rfl) ?_
        refine lv_iload_n hx hb dX2_cheapest_28 rfl (lv_at hl 2 rfl) ?_
        refine lv_iload_n hx hb dX2_cheapest_29 rfl (lv_at hl 3 rfl) ?_
        replace hr := b1S hr
        obtain ⟨r30z, hc30, hr⟩ := hr
        have hFc := fr_all hD hS hA
        obtain ⟨i4, hi4⟩ := hW.o2 hk_this
        refine va_calli (va_runV (As := [.int p0, .int y6_4, .int p1, .int p2]) (rest := [.int r21]) ⟨hx, hb, hml, hown, hts⟩ (m_X2_cost l dC dI kk ad H.size w3 G P U V X O kd ln cnt this p0 y6_4 p1 p2 hk_this hW hT r30z hc30) (cwV 4 hts gc_RX2_X2_cost_47 rfl rfl rfl (by decide +kernel) ⟨Nat.le_of_ble_eq_true rfl, Nat.le_of_ble_eq_true rfl⟩) ⟨fun a U g mk q => by obtain ⟨q0, q1, qP, qK, qD⟩ := q; exact ⟨q0, q1, qP, va_K.moved (u := U) (U := U.calling g mk a) (Vm.Alike.refl U.vm) qK, qD⟩, va_recv hK hP (ci := 2) (q0 := i4) rfl hi4, fun U hU hW => ⟨rfl, by rw [hU], by rw [hU]; exact hP, va_K.moved hW.alike hK, hD.weaken (fun _ _ _ _ => trivial)⟩⟩ rfl rfl hl.1 rfl (lv_room (Nat.le_of_ble_eq_true rfl)) dX2_cheapest_30 ⟨Nat.le_of_ble_eq_true rfl, Nat.le_of_ble_eq_true rfl⟩) hS (fun q _ h => hFc q h) hFc (fun r30 w5 t H1 locs ht hvm hw hB hz1 hk1 hS => ?_)
        obtain ⟨hw0, hW, hT⟩ := hw
        replace hw0 : r30 = r30z := hw0
        subst hw0
        obtain ⟨hP1, hK1, hD1⟩ := hB
        rw [ht] at hP1
        obtain ⟨hP, hD⟩ := jn_all (w1 := w5) hFc hP1 hD1
        replace hP : va_P (dC, dI) vwCl w5 H1 := hP
        replace hD : va_D A w5 := hD
        clear hFc hP1 hK1 hD1 hk1 hz1 ht hvm
        generalize H1 = H at hP hS ⊢
        replace hr := jnS hr
        obtain ⟨j40, hj40, hr⟩ := hr
        have Jj40 : ∀ (x40_4 : Int32) (ws : va_W) (H : Heap) (locs : List Loc) (ls : Array Slot), j40 x40_4 = some r → LW ws ad kk kd ln G P U V X O → TYP kd P O (V 0) cnt → va_P (dC, dI) vwCl ws H → va_D A ws → va_S A s.heap H locs → lv_has ls 6 [(0, .ref (ad this)), (1, .int p0), (2, .int p1), (3, .int p2), (4, .int x40_4), (5, .int y6_5)] → W p l e ({ frames := 3, cells := 0, slots := 0, locals := 85 } : Room) s m args below meth c H locs 0 0 Q (F0 m 40 ls []) := by
          intro x40_4 ws H locs ls hr hW hT hP hD hS hl
          rw [hj40] at hr
          refine lv_iinc (v := (y6_5 + 1)) (lv' := [(5, .int (y6_5 + 1)), (0, .ref (ad this)), (1, .int p0), (2, .int p1), (3, .int p2), (4, .int x40_4)]) hx hb dX2_cheapest_40 hl (k := 5) rfl rfl (by decide) rfl (fun ls hl => ?_)
          refine lv_goto (tgt := 6) hx hb dX2_cheapest_43 (by decide) ?_
          exact ih6 x40_4 (y6_5 + 1) ws H _ ls hr hW hT hP hD hS (lv_sub hl [1, 2, 3, 4, 5, 0] rfl)
        refine lv_icmp_ge (tgt := 40) hx hb dX2_cheapest_33 (by decide) (fun c33 => ?_) (fun c33 => ?_)
        · replace hr := iteT c33 hr
          exact Jj40 y6_4 w5 H _ ls hr hW hT hP hD hS (lv_sub hl [0, 1, 2, 3, 4, 5] rfl)
        · replace hr := iteF c33 hr
          refine lv_iload hx hb dX2_cheapest_36 (lv_at hl 5 rfl) ?_
          refine lv_istore (lv' := [(4, .int y6_5), (0, .ref (ad this)), (1, .int p0), (2, .int p1), (3, .int p2), (5, .int y6_5)]) hx hb dX2_cheapest_38 hl (by decide) rfl (fun ls hl => ?_)
          exact Jj40 y6_5 w5 H _ ls hr hW hT hP hD hS (lv_sub hl [1, 2, 3, 4, 0, 5] rfl)
  exact lp6 NN 0 1 ws H _ ls hr hW hT hP hD hS (lv_sub hl [2, 3, 4, 5, 1, 0] rfl)
set_option maxHeartbeats 4000000 in
set_option maxRecDepth 100000 in
theorem m_X2_cheapest (l : Launch) (dC : Nat → ClassId) (dI : Nat → Nat → Nat) (kk : Nat → ClassId) (ad : Nat → Nat) (sz : Nat) (ws : va_W) (G : Nat → Nat → Int32) (P : Nat → Nat → Option Nat) (U : Nat → Nat → Int64) (V : Nat → Nat → Nat → Int32) (X : Nat → Nat → Nat → Int64) (O : Nat → Nat → Nat → Option Nat) (kd : Nat → Nat) (ln : Nat → Nat) (cnt : Nat) (this : Nat) (p0 : Int32) (p1 : Int32) (p2 : Int32) (hk_this : kd this = 3) (hW : LW ws ad kk kd ln G P U V X O) (hT : TYP kd P O (V 0) cnt) (r : Int32) (hr : f_X2_cheapest G P U V X O kd ln cnt this p0 p1 p2 = some r) : Met l yX2_cheapest vmX2_cheapest ({ frames := 3, cells := 0, slots := 0, locals := 85 } : Room) (va_Pc [.ref (ad this), .int p0, .int p1, .int p2] (fun U => U.heap.size = sz ∧ va_P (dC, dI) vwCl ws U.heap ∧ va_K (dC, dI) vwCl (cT kk) U ∧ va_D (fun _ => True) ws)) (va_Qi (fun (rz : Int32) (w : va_W) => rz = r ∧ LW w ad kk kd ln G P U V X O ∧ TYP kd P O (V 0) cnt) (fun w t => va_P (dC, dI) vwCl w t.heap ∧ va_K (dC, dI) vwCl (cT kk) t ∧ va_D (va_A ws sz) w) (va_A ws sz)) 0 0 (va_A ws sz) := by
  refine Met.ofW (cc := cX2_cheapest) (maxL := 6) (ret := (some .int)) (by decide) rfl ?_
  intro p e s m args below meth c s₁ B hml hv
  obtain ⟨rfl, hsz, hP, hK, hD0⟩ := hv
  have hx := B.exec
  have hb := B.bytes
  have hrt := B.returns
  have hts := atoms_spec (ws := vmX2_cheapest) B.pre
  have hown : s.vm.findClass RX2 = some m.cls := findClass_of_methodNamed B.named
  subst hsz
  have hD := hD0.self (sz := s.heap.size)
  generalize hAe : va_A ws s.heap.size = A at hD ⊢
  have hA : ∀ q : Nat, s.heap.size ≤ q → A q := fun q h => by rw [← hAe]; exact Or.inr h
  have hS : va_S A s.heap s.heap [] := va_S.rf
  have hl := lv_entry ([.ref (ad this), .int p0, .int p1, .int p2]) (n := 6) (Nat.le_of_ble_eq_true rfl)
  rw [lg_entry_eq]
  generalize (lg_sl ([.ref (ad this), .int p0, .int p1, .int p2]) ++ List.replicate (6 - (lg_sl ([.ref (ad this), .int p0, .int p1, .int p2])).length) Slot.unset).toArray = ls at hl ⊢
  exact bm_X2_cheapest this p0 p1 p2 hk_this r hr hx hb hml hown hts hA hK hW hT hP hD hS hl (fun pc ls rz ws H locs he hd hW hT hP hD hS => by cases he; exact W.iret (v := r) hx hb hrt (fun t ht hW9 => ⟨⟨r, ws, rfl, ⟨rfl, hW, hT⟩, by rw [ht]; exact hP, va_K.moved hW9.alike hK, hD⟩, hS.F ht⟩) hS.2.2 hd)
set_option maxHeartbeats 4000000 in
set_option maxRecDepth 100000 in
theorem bm_X2_settle {p : Program} {l : Launch} {e : Env} {s : State} {m : MethodId} {args : Array Value} {below : List Frame} {meth : Method} {c : Code} {Q : State → Prop} {A : Nat → Prop} {dC : Nat → ClassId} {dI : Nat → Nat → Nat} {kk : Nat → ClassId} {ad : Nat → Nat} {ws : va_W} {G : Nat → Nat → Int32} {P : Nat → Nat → Option Nat} {U : Nat → Nat → Int64} {V : Nat → Nat → Nat → Int32} {X : Nat → Nat → Nat → Int64} {O : Nat → Nat → Nat → Option Nat} {kd : Nat → Nat} {ln : Nat → Nat} {cnt : Nat} {H : Heap} {locs : List Loc} {ls : Array Slot} (this : Nat) (p0 : Int32) (hk_this : kd this = 3) (r : Int32) (c_G43 : Nat → Int32) (c_V8 : Nat → Nat → Int32) (c_V9 : Nat → Nat → Int32) (hr : f_X2_settle G P U V X O kd ln cnt this p0 = some (r, c_G43, c_V8, c_V9)) (hx : p.tables.exec = Jvm.exec) (hb : c.code = cX2_settle) (hml : c.maxLocals = 5) (hown : s.vm.findClass RX2 = some m.cls) (hts : ∀ w ∈ vmX2_settle, w.before args s = true) (hA : ∀ q : Nat, s.heap.size ≤ q → A q) (hK : va_K (dC, dI) vwCl (cT kk) s) (hW : LW ws ad kk kd ln G P U V X O) (hT : TYP kd P O (V 0) cnt) (hP : va_P (dC, dI) vwCl ws H) (hD : va_D A ws) (hS : va_S A s.heap H locs) (hl : lv_has ls 5 [(0, .ref (ad this)), (1, .int p0)])
    (K : ∀ (pc : Nat) (ls : Array Slot) (rz : Int32) (c_G43z : Nat → Int32) (c_V8z : Nat → Nat → Int32) (c_V9z : Nat → Nat → Int32) (ws : va_W) (H : Heap) (locs : List Loc), some (rz, c_G43z, c_V8z, c_V9z) = some (r, c_G43, c_V8, c_V9) → decode cX2_settle pc = .ok (.ireturn, 1) → LW ws ad kk kd ln (va_up G 43 c_G43z) P U (va_up (va_up V 8 c_V8z) 9 c_V9z) X O → TYP kd P O (V 0) cnt → va_P (dC, dI) vwCl ws H → va_D A ws → va_S A s.heap H locs → W p l e ({ frames := 4, cells := 0, slots := 0, locals := 110 } : Room) s m args below meth c H locs 0 0 Q (F0 m pc ls [.int rz])) : W p l e ({ frames := 4, cells := 0, slots := 0, locals := 110 } : Room) s m args below meth c H locs 0 0 Q (F0 m 0 ls []) := by
  unfold f_X2_settle at hr
  refine lv_aload_n hx hb dX2_settle_0 rfl (lv_at hl 0 rfl) ?_
  obtain ⟨i1, hi1⟩ := hW.o2 hk_this
  refine va_get (D := (dC, dI)) (ci := 2) (v := .int ((G 44) this)) (C := RX2) (T := TX2) (N := 6) hx hb hts inX2 hown hK hP i1 hi1 rfl 4 (by decide) (hts (.fieldLink RX2 25 "SpellTurner$Mixture" "lines" "I") ic_102) (fun _ h9 => h9) rfl dX2_settle_1 ?_
  refine lv_iconst (v := 1) hx hb dX2_settle_4 (by decide +kernel) ?_
  refine lv_isub hx hb dX2_settle_5 ?_
  refine lv_topi (fun x6 ex6 => ?_)
  replace hr := vlS hr x6 ex6
  clear ex6
  refine lv_istore_n (lv' := [(2, .int x6), (0, .ref (ad this)), (1, .int p0)]) hx hb dX2_settle_6 rfl hl (by decide) rfl (fun ls hl => ?_)
  replace hr := jnS hr
  obtain ⟨k92, hk92, hr⟩ := hr
  have Jk92 : ∀ (c92_V8 : Nat → Nat → Int32) (ws : va_W) (H : Heap) (locs : List Loc) (ls : Array Slot), k92 c92_V8 = some (r, c_G43, c_V8, c_V9) → LW ws ad kk kd ln G P U (va_up V 8 c92_V8) X O → TYP kd P O (V 0) cnt → va_P (dC, dI) vwCl ws H → va_D A ws → va_S A s.heap H locs → lv_has ls 5 [(0, .ref (ad this)), (1, .int p0)] → W p l e ({ frames := 4, cells := 0, slots := 0, locals := 110 } : Room) s m args below meth c H locs 0 0 Q (F0 m 92 ls []) := by
    intro c92_V8 ws H locs ls hr hW hT hP hD hS hl
    rw [hk92] at hr
    refine lv_iconst (v := (-1)) hx hb dX2_settle_92 (by decide +kernel) ?_
    refine lv_istore_n (lv' := [(2, .int (-1)), (0, .ref (ad this)), (1, .int p0)]) hx hb dX2_settle_93 rfl hl (by decide) rfl (fun ls hl => ?_)
    refine lv_iconst (v := 0) hx hb dX2_settle_94 (by decide +kernel) ?_
    refine lv_istore_n (lv' := [(3, .int 0), (2, .int (-1)), (0, .ref (ad this)), (1, .int p0)]) hx hb dX2_settle_95 rfl hl (by decide) rfl (fun ls hl => ?_)
    replace hr := jnS hr
    obtain ⟨k125, hk125, hr⟩ := hr
    have Jk125 : ∀ (c125_V9 : Nat → Nat → Int32) (ws : va_W) (H : Heap) (locs : List Loc) (ls : Array Slot), k125 c125_V9 = some (r, c_G43, c_V8, c_V9) → LW ws ad kk kd ln G P U (va_up (va_up V 8 c92_V8) 9 c125_V9) X O → TYP kd P O (V 0) cnt → va_P (dC, dI) vwCl ws H → va_D A ws → va_S A s.heap H locs → lv_has ls 5 [(0, .ref (ad this)), (1, .int p0)] → W p l e ({ frames := 4, cells := 0, slots := 0, locals := 110 } : Room) s m args below meth c H locs 0 0 Q (F0 m 125 ls []) := by
      intro c125_V9 ws H locs ls hr hW hT hP hD hS hl
      rw [hk125] at hr
      refine lv_aload_n hx hb dX2_settle_125 rfl (lv_at hl 0 rfl) ?_
      refine lv_aload_n hx hb dX2_settle_126 rfl (lv_at hl 0 rfl) ?_
      obtain ⟨i2, hi2⟩ := hW.o2 hk_this
      refine va_get (D := (dC, dI)) (ci := 2) (v := .int ((G 44) this)) (C := RX2) (T := TX2) (N := 6) hx hb hts inX2 hown hK hP i2 hi2 rfl 4 (by decide) (hts (.fieldLink RX2 25 "SpellTurner$Mixture" "lines" "I") ic_102) (fun _ h9 => h9) rfl dX2_settle_127 ?_
      refine lv_topi (fun x130 ex130 => ?_)
      replace hr := vlS hr x130 ex130
      clear ex130
      obtain ⟨i3, hi3⟩ := hW.o2 hk_this
      refine va_put (D := (dC, dI)) (ci := 2) (v := .int x130) (ty := .int) (C := RX2) (T := TX2) (N := 6) hx hb hts inX2 tyX2 tyX2_ok nmX2 hown hK hP hD hS i3 hi3 rfl 3 (by decide) (hts (.fieldLink RX2 21 "SpellTurner$Mixture" "toldLines" "I") ic_150) (fun _ h9 => h9) rfl (by decide +kernel) rfl rfl (Nat.le_of_ble_eq_true rfl) dX2_settle_130 (fun H locs hP2 hD2 hS => ?_)
      obtain ⟨m130, w4, em130, hP, hD, hW⟩ : ∃ (z : Nat → Int32) (w : va_W), z = (va_up (G 43) this x130) ∧ va_P (dC, dI) vwCl w H ∧ va_D A w ∧ LW w ad kk kd ln (va_up G 43 z) P U (va_up (va_up V 8 c92_V8) 9 c125_V9) X O := ⟨_, _, rfl, hP2, hD2, hW.setG hD hi3 (by rw [hk_this]; decide) 43 x130 (by rw [hk_this]; rfl)⟩
      replace hr := vlS hr m130 em130
      clear em130
      refine lv_aload_n hx hb dX2_settle_133 rfl (lv_at hl 0 rfl) ?_
      refine lv_iconst (v := 0) hx hb dX2_settle_134 (by decide +kernel) ?_
      refine lv_aload_n hx hb dX2_settle_135 rfl (lv_at hl 0 rfl) ?_
      obtain ⟨i5, hi5⟩ := hW.o2 hk_this
      replace hr := nnS hr
      obtain ⟨a136, hn136, hr⟩ := hr
      have hk_a136 : kd a136 = 109 := hT.1 42 _ _ hn136
      refine va_get (D := (dC, dI)) (ci := 2) (v := .ref (ad a136)) (C := RX2) (T := TX2) (N := 6) hx hb hts inX2 hown hK hP i5 hi5 rfl 2 (by decide) (hts (.fieldLink RX2 18 "SpellTurner$Mixture" "told" "[I") ic_151) (fun _ h9 => h9) (congrArg (fun o => some (va_re ad o)) hn136) dX2_settle_136 ?_
      refine lv_iconst (v := 0) hx hb dX2_settle_139 (by decide +kernel) ?_
      obtain ⟨i6, hi6⟩ := hW.v9 hk_a136
      replace hr := iteS hr
      obtain ⟨hi140, hr⟩ := hr
      refine va_iald (f := (c125_V9 a136)) hx hb hK hP i6 1 hi6 rfl (inbV hi140) dX2_settle_140 ?_
      refine lv_iconst (v := (-1)) hx hb dX2_settle_141 (by decide +kernel) ?_
      refine lv_iload_n hx hb dX2_settle_142 rfl (lv_at hl 1 rfl) ?_
      replace hr := b1S hr
      obtain ⟨r143z, hc143, hr⟩ := hr
      have hFc := fr_all hD hS hA
      obtain ⟨i7, hi7⟩ := hW.o2 hk_this
      refine va_calli (va_runV (As := [.int 0, .int ((c125_V9 a136) (Int32.toNatClampNeg 0)), .int (-1), .int p0]) (rest := []) ⟨hx, hb, hml, hown, hts⟩ (m_X2_cost l dC dI kk ad H.size w4 (va_up G 43 m130) P U (va_up (va_up V 8 c92_V8) 9 c125_V9) X O kd ln cnt this 0 ((c125_V9 a136) (Int32.toNatClampNeg 0)) (-1) p0 hk_this hW hT r143z hc143) (cwV 4 hts gc_RX2_X2_cost_47 rfl rfl rfl (by decide +kernel) ⟨Nat.le_of_ble_eq_true rfl, Nat.le_of_ble_eq_true rfl⟩) ⟨fun a U g mk q => by obtain ⟨q0, q1, qP, qK, qD⟩ := q; exact ⟨q0, q1, qP, va_K.moved (u := U) (U := U.calling g mk a) (Vm.Alike.refl U.vm) qK, qD⟩, va_recv hK hP (ci := 2) (q0 := i7) rfl hi7, fun U hU hW => ⟨rfl, by rw [hU], by rw [hU]; exact hP, va_K.moved hW.alike hK, hD.weaken (fun _ _ _ _ => trivial)⟩⟩ rfl rfl hl.1 rfl (lv_room (Nat.le_of_ble_eq_true rfl)) dX2_settle_143 ⟨Nat.le_of_ble_eq_true rfl, Nat.le_of_ble_eq_true rfl⟩) hS (fun q _ h => hFc q h) hFc (fun r143 w8 t H1 locs ht hvm hw hB hz1 hk1 hS => ?_)
      obtain ⟨hw0, hW, hT⟩ := hw
      replace hw0 : r143 = r143z := hw0
      subst hw0
      obtain ⟨hP1, hK1, hD1⟩ := hB
      rw [ht] at hP1
      obtain ⟨hP, hD⟩ := jn_all (w1 := w8) hFc hP1 hD1
      replace hP : va_P (dC, dI) vwCl w8 H1 := hP
      replace hD : va_D A w8 := hD
      clear hFc hP1 hK1 hD1 hk1 hz1 ht hvm
      generalize H1 = H at hP hS ⊢
      exact K 146 ls _ _ _ _ w8 H _ hr dX2_settle_146 hW hT hP hD hS
    have lp96 : ∀ (n96 : Nat), ∀ (y96_2 : Int32) (y96_3 : Int32) (d96_V9 : Nat → Nat → Int32) (ws : va_W) (H : Heap) (locs : List Loc) (ls : Array Slot), L_X2_settle_96 G P U V X O kd ln cnt this p0 c92_V8 k125 n96 y96_2 y96_3 d96_V9 = some (r, c_G43, c_V8, c_V9) → LW ws ad kk kd ln G P U (va_up (va_up V 8 c92_V8) 9 d96_V9) X O → TYP kd P O (V 0) cnt → va_P (dC, dI) vwCl ws H → va_D A ws → va_S A s.heap H locs → lv_has ls 5 [(0, .ref (ad this)), (1, .int p0), (2, .int y96_2), (3, .int y96_3)] → W p l e ({ frames := 4, cells := 0, slots := 0, locals := 110 } : Room) s m args below meth c H locs 0 0 Q (F0 m 96 ls []) := by
      intro n96
      induction n96 with
      | zero => intro y96_2 y96_3 d96_V9 ws H locs ls hr hW hT hP hD hS hl; exact nomatch (show none = some (r, c_G43, c_V8, c_V9) from hr)
      | succ n96 ih96 =>
        intro y96_2 y96_3 d96_V9 ws H locs ls hr hW hT hP hD hS hl
        replace hr : B_X2_settle_96 G P U V X O kd ln cnt this p0 c92_V8 k125 (L_X2_settle_96 G P U V X O kd ln cnt this p0 c92_V8 k125 n96) y96_2 y96_3 d96_V9 = some (r, c_G43, c_V8, c_V9) := hr
        unfold B_X2_settle_96 at hr
        refine lv_iload_n hx hb dX2_settle_96 rfl (lv_at hl 3 rfl) ?_
        refine lv_aload_n hx hb dX2_settle_97 rfl (lv_at hl 0 rfl) ?_
        obtain ⟨i9, hi9⟩ := hW.o2 hk_this
        refine va_get (D := (dC, dI)) (ci := 2) (v := .int ((G 44) this)) (C := RX2) (T := TX2) (N := 6) hx hb hts inX2 hown hK hP i9 hi9 rfl 4 (by decide) (hts (.fieldLink RX2 25 "SpellTurner$Mixture" "lines" "I") ic_102) (fun _ h9 => h9) rfl dX2_settle_98 ?_
        refine lv_icmp_ge (tgt := 125) hx hb dX2_settle_101 (by decide) (fun c101 => ?_) (fun c101 => ?_)
        · replace hr := iteT c101 hr
          exact Jk125 d96_V9 ws H _ ls hr hW hT hP hD hS (lv_sub hl [0, 1] rfl)
        · replace hr := iteF c101 hr
          refine lv_aload_n hx hb dX2_settle_104 rfl (lv_at hl 0 rfl) ?_
          refine lv_iload_n hx hb dX2_settle_105 rfl (lv_at hl 3 rfl) ?_
          refine lv_iload_n hx hb dX2_settle_106 rfl (lv_at hl 2 rfl) ?_
          refine lv_iload_n hx hb dX2_settle_107 rfl (lv_at hl 1 rfl) ?_
          replace hr := b1S hr
          obtain ⟨r108z, hc108, hr⟩ := hr
          have hFc := fr_all hD hS hA
          obtain ⟨i10, hi10⟩ := hW.o2 hk_this
          refine va_calli (va_runV (As := [.int y96_3, .int y96_2, .int p0]) (rest := []) ⟨hx, hb, hml, hown, hts⟩ (m_X2_cheapest l dC dI kk ad H.size ws G P U (va_up (va_up V 8 c92_V8) 9 d96_V9) X O kd ln cnt this y96_3 y96_2 p0 hk_this hW hT r108z hc108) (cwV 3 hts gc_RX2_X2_cheapest_43 rfl rfl rfl (by decide +kernel) ⟨Nat.le_of_ble_eq_true rfl, Nat.le_of_ble_eq_true rfl⟩) ⟨fun a U g mk q => by obtain ⟨q0, q1, qP, qK, qD⟩ := q; exact ⟨q0, q1, qP, va_K.moved (u := U) (U := U.calling g mk a) (Vm.Alike.refl U.vm) qK, qD⟩, va_recv hK hP (ci := 2) (q0 := i10) rfl hi10, fun U hU hW => ⟨rfl, by rw [hU], by rw [hU]; exact hP, va_K.moved hW.alike hK, hD.weaken (fun _ _ _ _ => trivial)⟩⟩ rfl rfl hl.1 rfl (lv_room (Nat.le_of_ble_eq_true rfl)) dX2_settle_108 ⟨Nat.le_of_ble_eq_true rfl, Nat.le_of_ble_eq_true rfl⟩) hS (fun q _ h => hFc q h) hFc (fun r108 w11 t H1 locs ht hvm hw hB hz1 hk1 hS => ?_)
          obtain ⟨hw0, hW, hT⟩ := hw
          replace hw0 : r108 = r108z := hw0
          subst hw0
          obtain ⟨hP1, hK1, hD1⟩ := hB
          rw [ht] at hP1
          obtain ⟨hP, hD⟩ := jn_all (w1 := w11) hFc hP1 hD1
          replace hP : va_P (dC, dI) vwCl w11 H1 := hP
          replace hD : va_D A w11 := hD
          clear hFc hP1 hK1 hD1 hk1 hz1 ht hvm
          generalize H1 = H at hP hS ⊢
          refine lv_istore_n (lv' := [(2, .int r108), (0, .ref (ad this)), (1, .int p0), (3, .int y96_3)]) hx hb dX2_settle_111 rfl hl (by decide) rfl (fun ls hl => ?_)
          refine lv_aload_n hx hb dX2_settle_112 rfl (lv_at hl 1 rfl) ?_
          obtain ⟨i12, hi12⟩ := hW.o2 hk_this
          replace hr := nnS hr
          obtain ⟨a113, hn113, hr⟩ := hr
          have hk_a113 : kd a113 = 109 := hT.1 42 _ _ hn113
          refine va_get (D := (dC, dI)) (ci := 2) (v := .ref (ad a113)) (C := RX2) (T := TX2) (N := 6) hx hb hts inX2 hown hK hP i12 hi12 rfl 2 (by decide) (hts (.fieldLink RX2 18 "SpellTurner$Mixture" "told" "[I") ic_151) (fun _ h9 => h9) (congrArg (fun o => some (va_re ad o)) hn113) dX2_settle_113 ?_
          refine lv_iload_n hx hb dX2_settle_116 rfl (lv_at hl 3 rfl) ?_
          refine lv_iload_n hx hb dX2_settle_117 rfl (lv_at hl 0 rfl) ?_
          obtain ⟨i13, hi13⟩ := hW.v9 hk_a113
          replace hr := iteS hr
          obtain ⟨hi118, hr⟩ := hr
          refine va_iast (f := (d96_V9 a113)) hx hb hK hP hD hS i13 1 hi13 rfl (inbV hi118) dX2_settle_118 (fun H locs hP2 hD2 hS => ?_)
          obtain ⟨m118, w14, em118, hP, hD, hW⟩ : ∃ (z : Nat → Nat → Int32) (w : va_W), z = (va_up d96_V9 a113 (upd (d96_V9 a113) (Int32.toNatClampNeg y96_3) r108)) ∧ va_P (dC, dI) vwCl w H ∧ va_D A w ∧ LW w ad kk kd ln G P U (va_up (va_up (va_up V 8 c92_V8) 9 d96_V9) 9 z) X O := ⟨_, _, rfl, hP2, hD2, hW.setV hD hi13 (by rw [hk_a113]; decide) 9 (upd (d96_V9 a113) (Int32.toNatClampNeg y96_3) r108) (by rw [hk_a113]; rfl)⟩
          replace hr := vlS hr m118 em118
          clear em118
          refine lv_iinc (v := (y96_3 + 1)) (lv' := [(3, .int (y96_3 + 1)), (2, .int r108), (0, .ref (ad this)), (1, .int p0)]) hx hb dX2_settle_119 hl (k := 3) rfl rfl (by decide) rfl (fun ls hl => ?_)
          refine lv_goto (tgt := 96) hx hb dX2_settle_122 (by decide) ?_
          have eV : (va_up (va_up (va_up V 8 c92_V8) 9 d96_V9) 9 m118) = (va_up (va_up V 8 c92_V8) 9 m118) := by
            funext k
            by_cases h8 : k = 8
            · subst h8; rfl
            by_cases h9 : k = 9
            · subst h9; rfl
            · simp only [va_up, h8, h9, if_false]
          rw [eV] at hW
          clear eV
          exact ih96 r108 (y96_3 + 1) m118 w14 H _ ls hr hW hT hP hD hS (lv_sub hl [2, 3, 1, 0] rfl)
    have eV : (va_up V 8 c92_V8) = (va_up (va_up V 8 c92_V8) 9 (V 9)) := by
      funext k
      by_cases h8 : k = 8
      · subst h8; rfl
      by_cases h9 : k = 9
      · subst h9; rfl
      · simp only [va_up, h8, h9, if_false]
    rw [eV] at hW
    clear eV
    exact lp96 NN (-1) 0 (V 9) ws H _ ls hr hW hT hP hD hS (lv_sub hl [2, 3, 1, 0] rfl)
  have lp7 : ∀ (n7 : Nat), ∀ (y7_2 : Int32) (d7_V8 : Nat → Nat → Int32) (ws : va_W) (H : Heap) (locs : List Loc) (ls : Array Slot), L_X2_settle_7 G P U V X O kd ln cnt this p0 k92 n7 y7_2 d7_V8 = some (r, c_G43, c_V8, c_V9) → LW ws ad kk kd ln G P U (va_up V 8 d7_V8) X O → TYP kd P O (V 0) cnt → va_P (dC, dI) vwCl ws H → va_D A ws → va_S A s.heap H locs → lv_has ls 5 [(0, .ref (ad this)), (1, .int p0), (2, .int y7_2)] → W p l e ({ frames := 4, cells := 0, slots := 0, locals := 110 } : Room) s m args below meth c H locs 0 0 Q (F0 m 7 ls []) := by
    intro n7
    induction n7 with
    | zero => intro y7_2 d7_V8 ws H locs ls hr hW hT hP hD hS hl; exact nomatch (show none = some (r, c_G43, c_V8, c_V9) from hr)
    | succ n7 ih7 =>
      intro y7_2 d7_V8 ws H locs ls hr hW hT hP hD hS hl
      replace hr : B_X2_settle_7 G P U V X O kd ln cnt this p0 k92 (L_X2_settle_7 G P U V X O kd ln cnt this p0 k92 n7) y7_2 d7_V8 = some (r, c_G43, c_V8, c_V9) := hr
      unfold B_X2_settle_7 at hr
      refine lv_iload_n hx hb dX2_settle_7 rfl (lv_at hl 2 rfl) ?_
      refine lv_if_lt (tgt := 92) hx hb dX2_settle_8 (by decide) (fun c8 => ?_) (fun c8 => ?_)
      · replace hr := iteT c8 hr
        exact Jk92 d7_V8 ws H _ ls hr hW hT hP hD hS (lv_sub hl [0, 1] rfl)
      · replace hr := iteF c8 hr
        refine lv_iconst (v := 0) hx hb dX2_settle_11 (by decide +kernel) ?_
        refine lv_istore_n (lv' := [(3, .int 0), (0, .ref (ad this)), (1, .int p0), (2, .int y7_2)]) hx hb dX2_settle_12 rfl hl (by decide) rfl (fun ls hl => ?_)
        replace hr := jnS hr
        obtain ⟨k86, hk86, hr⟩ := hr
        have Jk86 : ∀ (c86_V8 : Nat → Nat → Int32) (ws : va_W) (H : Heap) (locs : List Loc) (ls : Array Slot), k86 c86_V8 = some (r, c_G43, c_V8, c_V9) → LW ws ad kk kd ln G P U (va_up V 8 c86_V8) X O → TYP kd P O (V 0) cnt → va_P (dC, dI) vwCl ws H → va_D A ws → va_S A s.heap H locs → lv_has ls 5 [(0, .ref (ad this)), (1, .int p0), (2, .int y7_2)] → W p l e ({ frames := 4, cells := 0, slots := 0, locals := 110 } : Room) s m args below meth c H locs 0 0 Q (F0 m 86 ls []) := by
          intro c86_V8 ws H locs ls hr hW hT hP hD hS hl
          rw [hk86] at hr
          refine lv_iinc (v := (y7_2 + (-1))) (lv' := [(2, .int (y7_2 + (-1))), (0, .ref (ad this)), (1, .int p0)]) hx hb dX2_settle_86 hl (k := 2) rfl rfl (by decide) rfl (fun ls hl => ?_)
          refine lv_goto (tgt := 7) hx hb dX2_settle_89 (by decide) ?_
          exact ih7 (y7_2 + (-1)) c86_V8 ws H _ ls hr hW hT hP hD hS (lv_sub hl [1, 2, 0] rfl)
        have lp13 : ∀ (n13 : Nat), ∀ (y13_3 : Int32) (d13_V8 : Nat → Nat → Int32) (ws : va_W) (H : Heap) (locs : List Loc) (ls : Array Slot), L_X2_settle_13 G P U V X O kd ln cnt this p0 y7_2 k86 n13 y13_3 d13_V8 = some (r, c_G43, c_V8, c_V9) → LW ws ad kk kd ln G P U (va_up V 8 d13_V8) X O → TYP kd P O (V 0) cnt → va_P (dC, dI) vwCl ws H → va_D A ws → va_S A s.heap H locs → lv_has ls 5 [(0, .ref (ad this)), (1, .int p0), (2, .int y7_2), (3, .int y13_3)] → W p l e ({ frames := 4, cells := 0, slots := 0, locals := 110 } : Room) s m args below meth c H locs 0 0 Q (F0 m 13 ls []) := by
          intro n13
          induction n13 with
          | zero => intro y13_3 d13_V8 ws H locs ls hr hW hT hP hD hS hl; exact nomatch (show none = some (r, c_G43, c_V8, c_V9) from hr)
          | succ n13 ih13 =>
            intro y13_3 d13_V8 ws H locs ls hr hW hT hP hD hS hl
            replace hr : B_X2_settle_13 G P U V X O kd ln cnt this p0 y7_2 k86 (L_X2_settle_13 G P U V X O kd ln cnt this p0 y7_2 k86 n13) y13_3 d13_V8 = some (r, c_G43, c_V8, c_V9) := hr
            unfold B_X2_settle_13 at hr
            refine lv_iload_n hx hb dX2_settle_13 rfl (lv_at hl 3 rfl) ?_
            refine lv_aload_n hx hb dX2_settle_14 rfl (lv_at hl 0 rfl) ?_
            obtain ⟨i15, hi15⟩ := hW.o2 hk_this
            refine va_get (D := (dC, dI)) (ci := 2) (v := .int ((G 45) this)) (C := RX2) (T := TX2) (N := 6) hx hb hts inX2 hown hK hP i15 hi15 rfl 5 (by decide) (hts (.fieldLink RX2 28 "SpellTurner$Mixture" "stages" "I") ic_103) (fun _ h9 => h9) rfl dX2_settle_15 ?_
            refine lv_icmp_ge (tgt := 86) hx hb dX2_settle_18 (by decide) (fun c18 => ?_) (fun c18 => ?_)
            · replace hr := iteT c18 hr
              exact Jk86 d13_V8 ws H _ ls hr hW hT hP hD hS (lv_sub hl [0, 1, 2] rfl)
            · replace hr := iteF c18 hr
              refine lv_iload_n hx hb dX2_settle_21 rfl (lv_at hl 2 rfl) ?_
              refine lv_iconst (v := 1) hx hb dX2_settle_22 (by decide +kernel) ?_
              refine lv_iadd hx hb dX2_settle_23 ?_
              refine lv_aload_n hx hb dX2_settle_24 rfl (lv_at hl 0 rfl) ?_
              obtain ⟨i16, hi16⟩ := hW.o2 hk_this
              refine va_get (D := (dC, dI)) (ci := 2) (v := .int ((G 44) this)) (C := RX2) (T := TX2) (N := 6) hx hb hts inX2 hown hK hP i16 hi16 rfl 4 (by decide) (hts (.fieldLink RX2 25 "SpellTurner$Mixture" "lines" "I") ic_102) (fun _ h9 => h9) rfl dX2_settle_25 ?_
              replace hr := jnS hr
              obtain ⟨j53, hj53, hr⟩ := hr
              have Jj53 : ∀ (t53_0 : Int32) (ws : va_W) (H : Heap) (locs : List Loc) (ls : Array Slot), j53 t53_0 = some (r, c_G43, c_V8, c_V9) → LW ws ad kk kd ln G P U (va_up V 8 d13_V8) X O → TYP kd P O (V 0) cnt → va_P (dC, dI) vwCl ws H → va_D A ws → va_S A s.heap H locs → lv_has ls 5 [(0, .ref (ad this)), (1, .int p0), (2, .int y7_2), (3, .int y13_3)] → W p l e ({ frames := 4, cells := 0, slots := 0, locals := 110 } : Room) s m args below meth c H locs 0 0 Q (F0 m 53 ls [.int t53_0]) := by
                intro t53_0 ws H locs ls hr hW hT hP hD hS hl
                rw [hj53] at hr
                refine lv_istore (lv' := [(4, .int t53_0), (0, .ref (ad this)), (1, .int p0), (2, .int y7_2), (3, .int y13_3)]) hx hb dX2_settle_53 hl (by decide) rfl (fun ls hl => ?_)
                refine lv_aload_n hx hb dX2_settle_55 rfl (lv_at hl 1 rfl) ?_
                obtain ⟨i17, hi17⟩ := hW.o2 hk_this
                replace hr := nnS hr
                obtain ⟨a56, hn56, hr⟩ := hr
                have hk_a56 : kd a56 = 108 := hT.1 41 _ _ hn56
                refine va_get (D := (dC, dI)) (ci := 2) (v := .ref (ad a56)) (C := RX2) (T := TX2) (N := 6) hx hb hts inX2 hown hK hP i17 hi17 rfl 1 (by decide) (hts (.fieldLink RX2 15 "SpellTurner$Mixture" "least" "[I") ic_204) (fun _ h9 => h9) (congrArg (fun o => some (va_re ad o)) hn56) dX2_settle_56 ?_
                refine lv_iload_n hx hb dX2_settle_59 rfl (lv_at hl 3 rfl) ?_
                refine lv_bipush (v := 7) hx hb dX2_settle_60 (by decide +kernel) ?_
                refine lv_imul hx hb dX2_settle_62 ?_
                refine lv_iload_n hx hb dX2_settle_63 rfl (lv_at hl 4 rfl) ?_
                refine lv_iadd hx hb dX2_settle_64 ?_
                refine lv_aload_n hx hb dX2_settle_65 rfl (lv_at hl 1 rfl) ?_
                obtain ⟨i18, hi18⟩ := hW.o2 hk_this
                replace hr := nnS hr
                obtain ⟨a66, hn66, hr⟩ := hr
                have hk_a66 : kd a66 = 107 := hT.1 40 _ _ hn66
                refine va_get (D := (dC, dI)) (ci := 2) (v := .ref (ad a66)) (C := RX2) (T := TX2) (N := 6) hx hb hts inX2 hown hK hP i18 hi18 rfl 0 (by decide) (hts (.fieldLink RX2 9 "SpellTurner$Mixture" "costs" "[I") ic_104) (fun _ h9 => h9) (congrArg (fun o => some (va_re ad o)) hn66) dX2_settle_66 ?_
                refine lv_iload_n hx hb dX2_settle_69 rfl (lv_at hl 3 rfl) ?_
                refine lv_bipush (v := 7) hx hb dX2_settle_70 (by decide +kernel) ?_
                refine lv_imul hx hb dX2_settle_72 ?_
                refine lv_iload_n hx hb dX2_settle_73 rfl (lv_at hl 4 rfl) ?_
                refine lv_iadd hx hb dX2_settle_74 ?_
                obtain ⟨i19, hi19⟩ := hW.v7 hk_a66
                replace hr := iteS hr
                obtain ⟨hi75, hr⟩ := hr
                refine va_iald (f := ((V 7) a66)) hx hb hK hP i19 1 hi19 rfl (inbV hi75) dX2_settle_75 ?_
                refine lv_iload hx hb dX2_settle_76 (lv_at hl 0 rfl) ?_
                refine lv_iadd hx hb dX2_settle_78 ?_
                obtain ⟨i20, hi20⟩ := hW.v8 hk_a56
                replace hr := iteS hr
                obtain ⟨hi79, hr⟩ := hr
                refine va_iast (f := (d13_V8 a56)) hx hb hK hP hD hS i20 1 hi20 rfl (inbV hi79) dX2_settle_79 (fun H locs hP2 hD2 hS => ?_)
                obtain ⟨m79, w21, em79, hP, hD, hW⟩ : ∃ (z : Nat → Nat → Int32) (w : va_W), z = (va_up d13_V8 a56 (upd (d13_V8 a56) (Int32.toNatClampNeg ((y7_2 * 7) + y13_3)) ((((V 7) a66) (Int32.toNatClampNeg ((y7_2 * 7) + y13_3))) + t53_0))) ∧ va_P (dC, dI) vwCl w H ∧ va_D A w ∧ LW w ad kk kd ln G P U (va_up (va_up V 8 d13_V8) 8 z) X O := ⟨_, _, rfl, hP2, hD2, hW.setV hD hi20 (by rw [hk_a56]; decide) 8 (upd (d13_V8 a56) (Int32.toNatClampNeg ((y7_2 * 7) + y13_3)) ((((V 7) a66) (Int32.toNatClampNeg ((y7_2 * 7) + y13_3))) + t53_0)) (by rw [hk_a56]; rfl)⟩
                replace hr := vlS hr m79 em79
                clear em79
                refine lv_iinc (v := (y13_3 + 1)) (lv' := [(3, .int (y13_3 + 1)), (4, .int t53_0), (0, .ref (ad this)), (1, .int p0), (2, .int y7_2)]) hx hb dX2_settle_80 hl (k := 4) rfl rfl (by decide) rfl (fun ls hl => ?_)
                refine lv_goto (tgt := 13) hx hb dX2_settle_83 (by decide) ?_
                have eV : (va_up (va_up V 8 d13_V8) 8 m79) = (va_up V 8 m79) := by
                  funext k
                  by_cases h8 : k = 8
                  · subst h8; rfl
                  · simp only [va_up, h8, if_false]
                rw [eV] at hW
                clear eV
                exact ih13 (y13_3 + 1) m79 w21 H _ ls hr hW hT hP hD hS (lv_sub hl [2, 3, 4, 0] rfl)
              refine lv_icmp_ge (tgt := 52) hx hb dX2_settle_28 (by decide) (fun c28 => ?_) (fun c28 => ?_)
              · replace hr := iteT c28 hr
                refine lv_iconst (v := 0) hx hb dX2_settle_52 (by decide +kernel) ?_
                exact Jj53 0 ws H _ ls hr hW hT hP hD hS (lv_sub hl [0, 1, 2, 3] rfl)
              · replace hr := iteF c28 hr
                refine lv_aload_n hx hb dX2_settle_31 rfl (lv_at hl 0 rfl) ?_
                refine lv_iload_n hx hb dX2_settle_32 rfl (lv_at hl 2 rfl) ?_
                refine lv_iconst (v := 1) hx hb dX2_settle_33 (by decide +kernel) ?_
                refine lv_iadd hx hb dX2_settle_34 ?_
                refine lv_aload_n hx hb dX2_settle_35 rfl (lv_at hl 0 rfl) ?_
                refine lv_iload_n hx hb dX2_settle_36 rfl (lv_at hl 2 rfl) ?_
                refine lv_iconst (v := 1) hx hb dX2_settle_37 (by decide +kernel) ?_
                refine lv_iadd hx hb dX2_settle_38 ?_
                refine lv_iload_n hx hb dX2_settle_39 rfl (lv_at hl 3 rfl) ?_
                refine lv_iload_n hx hb dX2_settle_40 rfl (lv_at hl 1 rfl) ?_
                replace hr := b1S hr
                obtain ⟨r41z, hc41, hr⟩ := hr
                have hFc := fr_all hD hS hA
                obtain ⟨i22, hi22⟩ := hW.o2 hk_this
                refine va_calli (va_runV (As := [.int (y7_2 + 1), .int y13_3, .int p0]) (rest := [.int (y7_2 + 1), .ref (ad this)]) ⟨hx, hb, hml, hown, hts⟩ (m_X2_cheapest l dC dI kk ad H.size ws G P U (va_up V 8 d13_V8) X O kd ln cnt this (y7_2 + 1) y13_3 p0 hk_this hW hT r41z hc41) (cwV 3 hts gc_RX2_X2_cheapest_43 rfl rfl rfl (by decide +kernel) ⟨Nat.le_of_ble_eq_true rfl, Nat.le_of_ble_eq_true rfl⟩) ⟨fun a U g mk q => by obtain ⟨q0, q1, qP, qK, qD⟩ := q; exact ⟨q0, q1, qP, va_K.moved (u := U) (U := U.calling g mk a) (Vm.Alike.refl U.vm) qK, qD⟩, va_recv hK hP (ci := 2) (q0 := i22) rfl hi22, fun U hU hW => ⟨rfl, by rw [hU], by rw [hU]; exact hP, va_K.moved hW.alike hK, hD.weaken (fun _ _ _ _ => trivial)⟩⟩ rfl rfl hl.1 rfl (lv_room (Nat.le_of_ble_eq_true rfl)) dX2_settle_41 ⟨Nat.le_of_ble_eq_true rfl, Nat.le_of_ble_eq_true rfl⟩) hS (fun q _ h => hFc q h) hFc (fun r41 w23 t H1 locs ht hvm hw hB hz1 hk1 hS => ?_)
                obtain ⟨hw0, hW, hT⟩ := hw
                replace hw0 : r41 = r41z := hw0
                subst hw0
                obtain ⟨hP1, hK1, hD1⟩ := hB
                rw [ht] at hP1
                obtain ⟨hP, hD⟩ := jn_all (w1 := w23) hFc hP1 hD1
                replace hP : va_P (dC, dI) vwCl w23 H1 := hP
                replace hD : va_D A w23 := hD
                clear hFc hP1 hK1 hD1 hk1 hz1 ht hvm
                generalize H1 = H at hP hS ⊢
                refine lv_iload_n hx hb dX2_settle_44 rfl (lv_at hl 3 rfl) ?_
                refine lv_iload_n hx hb dX2_settle_45 rfl (lv_at hl 1 rfl) ?_
                replace hr := b1S hr
                obtain ⟨r46z, hc46, hr⟩ := hr
                have hFc := fr_all hD hS hA
                obtain ⟨i24, hi24⟩ := hW.o2 hk_this
                refine va_calli (va_runV (As := [.int (y7_2 + 1), .int r41, .int y13_3, .int p0]) (rest := []) ⟨hx, hb, hml, hown, hts⟩ (m_X2_cost l dC dI kk ad H.size w23 G P U (va_up V 8 d13_V8) X O kd ln cnt this (y7_2 + 1) r41 y13_3 p0 hk_this hW hT r46z hc46) (cwV 4 hts gc_RX2_X2_cost_47 rfl rfl rfl (by decide +kernel) ⟨Nat.le_of_ble_eq_true rfl, Nat.le_of_ble_eq_true rfl⟩) ⟨fun a U g mk q => by obtain ⟨q0, q1, qP, qK, qD⟩ := q; exact ⟨q0, q1, qP, va_K.moved (u := U) (U := U.calling g mk a) (Vm.Alike.refl U.vm) qK, qD⟩, va_recv hK hP (ci := 2) (q0 := i24) rfl hi24, fun U hU hW => ⟨rfl, by rw [hU], by rw [hU]; exact hP, va_K.moved hW.alike hK, hD.weaken (fun _ _ _ _ => trivial)⟩⟩ rfl rfl hl.1 rfl (lv_room (Nat.le_of_ble_eq_true rfl)) dX2_settle_46 ⟨Nat.le_of_ble_eq_true rfl, Nat.le_of_ble_eq_true rfl⟩) hS (fun q _ h => hFc q h) hFc (fun r46 w25 t H1 locs ht hvm hw hB hz1 hk1 hS => ?_)
                obtain ⟨hw0, hW, hT⟩ := hw
                replace hw0 : r46 = r46z := hw0
                subst hw0
                obtain ⟨hP1, hK1, hD1⟩ := hB
                rw [ht] at hP1
                obtain ⟨hP, hD⟩ := jn_all (w1 := w25) hFc hP1 hD1
                replace hP : va_P (dC, dI) vwCl w25 H1 := hP
                replace hD : va_D A w25 := hD
                clear hFc hP1 hK1 hD1 hk1 hz1 ht hvm
                generalize H1 = H at hP hS ⊢
                refine lv_goto (tgt := 53) hx hb dX2_settle_49 (by decide) ?_
                exact Jj53 r46 w25 H _ ls hr hW hT hP hD hS (lv_sub hl [0, 1, 2, 3] rfl)
        exact lp13 NN 0 d7_V8 ws H _ ls hr hW hT hP hD hS (lv_sub hl [1, 2, 3, 0] rfl)
  have eV : V = (va_up V 8 (V 8)) := by
    funext k
    by_cases h8 : k = 8
    · subst h8; rfl
    · simp only [va_up, h8, if_false]
  rw [eV] at hW
  clear eV
  exact lp7 NN x6 (V 8) ws H _ ls hr hW hT hP hD hS (lv_sub hl [1, 2, 0] rfl)
set_option maxHeartbeats 4000000 in
set_option maxRecDepth 100000 in
theorem m_X2_settle (l : Launch) (dC : Nat → ClassId) (dI : Nat → Nat → Nat) (kk : Nat → ClassId) (ad : Nat → Nat) (sz : Nat) (ws : va_W) (G : Nat → Nat → Int32) (P : Nat → Nat → Option Nat) (U : Nat → Nat → Int64) (V : Nat → Nat → Nat → Int32) (X : Nat → Nat → Nat → Int64) (O : Nat → Nat → Nat → Option Nat) (kd : Nat → Nat) (ln : Nat → Nat) (cnt : Nat) (this : Nat) (p0 : Int32) (hk_this : kd this = 3) (hW : LW ws ad kk kd ln G P U V X O) (hT : TYP kd P O (V 0) cnt) (r : Int32) (c_G43 : Nat → Int32) (c_V8 : Nat → Nat → Int32) (c_V9 : Nat → Nat → Int32) (hr : f_X2_settle G P U V X O kd ln cnt this p0 = some (r, c_G43, c_V8, c_V9)) : Met l yX2_settle vmX2_settle ({ frames := 4, cells := 0, slots := 0, locals := 110 } : Room) (va_Pc [.ref (ad this), .int p0] (fun U => U.heap.size = sz ∧ va_P (dC, dI) vwCl ws U.heap ∧ va_K (dC, dI) vwCl (cT kk) U ∧ va_D (fun _ => True) ws)) (va_Qi (fun (rz : Int32) (w : va_W) => rz = r ∧ LW w ad kk kd ln (va_up G 43 c_G43) P U (va_up (va_up V 8 c_V8) 9 c_V9) X O ∧ TYP kd P O (V 0) cnt) (fun w t => va_P (dC, dI) vwCl w t.heap ∧ va_K (dC, dI) vwCl (cT kk) t ∧ va_D (va_A ws sz) w) (va_A ws sz)) 0 0 (va_A ws sz) := by
  refine Met.ofW (cc := cX2_settle) (maxL := 5) (ret := (some .int)) (by decide) rfl ?_
  intro p e s m args below meth c s₁ B hml hv
  obtain ⟨rfl, hsz, hP, hK, hD0⟩ := hv
  have hx := B.exec
  have hb := B.bytes
  have hrt := B.returns
  have hts := atoms_spec (ws := vmX2_settle) B.pre
  have hown : s.vm.findClass RX2 = some m.cls := findClass_of_methodNamed B.named
  subst hsz
  have hD := hD0.self (sz := s.heap.size)
  generalize hAe : va_A ws s.heap.size = A at hD ⊢
  have hA : ∀ q : Nat, s.heap.size ≤ q → A q := fun q h => by rw [← hAe]; exact Or.inr h
  have hS : va_S A s.heap s.heap [] := va_S.rf
  have hl := lv_entry ([.ref (ad this), .int p0]) (n := 5) (Nat.le_of_ble_eq_true rfl)
  rw [lg_entry_eq]
  generalize (lg_sl ([.ref (ad this), .int p0]) ++ List.replicate (5 - (lg_sl ([.ref (ad this), .int p0])).length) Slot.unset).toArray = ls at hl ⊢
  exact bm_X2_settle this p0 hk_this r c_G43 c_V8 c_V9 hr hx hb hml hown hts hA hK hW hT hP hD hS hl (fun pc ls rz c_G43z c_V8z c_V9z ws H locs he hd hW hT hP hD hS => by cases he; exact W.iret (v := r) hx hb hrt (fun t ht hW9 => ⟨⟨r, ws, rfl, ⟨rfl, hW, hT⟩, by rw [ht]; exact hP, va_K.moved hW9.alike hK, hD⟩, hS.F ht⟩) hS.2.2 hd)
