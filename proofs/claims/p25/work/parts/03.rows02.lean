theorem gd_X11_partings_13 : decode cX11_partings 13 = .ok (.astore_n 3, 1) ∧ decode cX11_partings 14 = .ok (.aload_n 3, 1) ∧ decode cX11_partings 15 = .ok (.ifnull 14, 3) ∧ decode cX11_partings 29 = .ok (.bipush (-2), 2) ∧ decode cX11_partings 31 = .ok (.ireturn, 1) ∧ decode cX11_parting 0 = .ok (.iload_n 1, 1) ∧ decode cX11_parting 1 = .ok (.ifCond .lt 18, 3) ∧ decode cX11_parting 4 = .ok (.iload_n 1, 1) ∧ decode cX11_parting 5 = .ok (.aload_n 0, 1) ∧ decode cX11_parting 6 = .ok (.getfield 60, 3) := by decide +kernel
theorem dX11_partings_13 : decode cX11_partings 13 = .ok (.astore_n 3, 1) := gd_X11_partings_13.1
theorem dX11_partings_14 : decode cX11_partings 14 = .ok (.aload_n 3, 1) := gd_X11_partings_13.2.1
theorem dX11_partings_15 : decode cX11_partings 15 = .ok (.ifnull 14, 3) := gd_X11_partings_13.2.2.1
theorem dX11_partings_29 : decode cX11_partings 29 = .ok (.bipush (-2), 2) := gd_X11_partings_13.2.2.2.1
theorem dX11_partings_31 : decode cX11_partings 31 = .ok (.ireturn, 1) := gd_X11_partings_13.2.2.2.2.1
theorem dX11_parting_0 : decode cX11_parting 0 = .ok (.iload_n 1, 1) := gd_X11_partings_13.2.2.2.2.2.1
theorem dX11_parting_1 : decode cX11_parting 1 = .ok (.ifCond .lt 18, 3) := gd_X11_partings_13.2.2.2.2.2.2.1
theorem dX11_parting_4 : decode cX11_parting 4 = .ok (.iload_n 1, 1) := gd_X11_partings_13.2.2.2.2.2.2.2.1
theorem dX11_parting_5 : decode cX11_parting 5 = .ok (.aload_n 0, 1) := gd_X11_partings_13.2.2.2.2.2.2.2.2.1
theorem dX11_parting_6 : decode cX11_parting 6 = .ok (.getfield 60, 3) := gd_X11_partings_13.2.2.2.2.2.2.2.2.2
theorem gd_X11_parting_9 : decode cX11_parting 9 = .ok (.getfield 190, 3) ∧ decode cX11_parting 12 = .ok (.if_icmp .ge 7, 3) ∧ decode cX11_parting 19 = .ok (.iconst (-1), 1) ∧ decode cX11_parting 20 = .ok (.ireturn, 1) ∧ decode cX11_learn 0 = .ok (.aload_n 0, 1) ∧ decode cX11_learn 1 = .ok (.getfield 12, 3) ∧ decode cX11_learn 4 = .ok (.invokevirtual 112, 3) ∧ decode cX11_learn 7 = .ok (.istore_n 1, 1) ∧ decode cX11_learn 8 = .ok (.aload_n 0, 1) ∧ decode cX11_learn 9 = .ok (.getfield 12, 3) := by decide +kernel
theorem dX11_parting_9 : decode cX11_parting 9 = .ok (.getfield 190, 3) := gd_X11_parting_9.1
theorem dX11_parting_12 : decode cX11_parting 12 = .ok (.if_icmp .ge 7, 3) := gd_X11_parting_9.2.1
theorem dX11_parting_19 : decode cX11_parting 19 = .ok (.iconst (-1), 1) := gd_X11_parting_9.2.2.1
theorem dX11_parting_20 : decode cX11_parting 20 = .ok (.ireturn, 1) := gd_X11_parting_9.2.2.2.1
theorem dX11_learn_0 : decode cX11_learn 0 = .ok (.aload_n 0, 1) := gd_X11_parting_9.2.2.2.2.1
theorem dX11_learn_1 : decode cX11_learn 1 = .ok (.getfield 12, 3) := gd_X11_parting_9.2.2.2.2.2.1
theorem dX11_learn_4 : decode cX11_learn 4 = .ok (.invokevirtual 112, 3) := gd_X11_parting_9.2.2.2.2.2.2.1
theorem dX11_learn_7 : decode cX11_learn 7 = .ok (.istore_n 1, 1) := gd_X11_parting_9.2.2.2.2.2.2.2.1
theorem dX11_learn_8 : decode cX11_learn 8 = .ok (.aload_n 0, 1) := gd_X11_parting_9.2.2.2.2.2.2.2.2.1
theorem dX11_learn_9 : decode cX11_learn 9 = .ok (.getfield 12, 3) := gd_X11_parting_9.2.2.2.2.2.2.2.2.2
theorem gd_X11_learn_12 : decode cX11_learn 12 = .ok (.iload_n 1, 1) ∧ decode cX11_learn 13 = .ok (.invokevirtual 164, 3) ∧ decode cX11_learn 16 = .ok (.ifCond .ne 6, 3) ∧ decode cX11_learn 19 = .ok (.bipush (-2), 2) ∧ decode cX11_learn 21 = .ok (.ireturn, 1) ∧ decode cX11_word 0 = .ok (.aload_n 0, 1) ∧ decode cX11_word 1 = .ok (.getfield 67, 3) ∧ decode cX11_word 4 = .ok (.getfield 197, 3) ∧ decode cX11_word 7 = .ok (.iload_n 1, 1) ∧ decode cX11_word 8 = .ok (.iload_n 2, 1) := by decide +kernel
theorem dX11_learn_12 : decode cX11_learn 12 = .ok (.iload_n 1, 1) := gd_X11_learn_12.1
theorem dX11_learn_13 : decode cX11_learn 13 = .ok (.invokevirtual 164, 3) := gd_X11_learn_12.2.1
theorem dX11_learn_16 : decode cX11_learn 16 = .ok (.ifCond .ne 6, 3) := gd_X11_learn_12.2.2.1
theorem dX11_learn_19 : decode cX11_learn 19 = .ok (.bipush (-2), 2) := gd_X11_learn_12.2.2.2.1
theorem dX11_learn_21 : decode cX11_learn 21 = .ok (.ireturn, 1) := gd_X11_learn_12.2.2.2.2.1
theorem dX11_word_0 : decode cX11_word 0 = .ok (.aload_n 0, 1) := gd_X11_learn_12.2.2.2.2.2.1
theorem dX11_word_1 : decode cX11_word 1 = .ok (.getfield 67, 3) := gd_X11_learn_12.2.2.2.2.2.2.1
theorem dX11_word_4 : decode cX11_word 4 = .ok (.getfield 197, 3) := gd_X11_learn_12.2.2.2.2.2.2.2.1
theorem dX11_word_7 : decode cX11_word 7 = .ok (.iload_n 1, 1) := gd_X11_learn_12.2.2.2.2.2.2.2.2.1
theorem dX11_word_8 : decode cX11_word 8 = .ok (.iload_n 2, 1) := gd_X11_learn_12.2.2.2.2.2.2.2.2.2
theorem gd_X11_word_9 : decode cX11_word 9 = .ok (.invokevirtual 176, 3) ∧ decode cX11_word 12 = .ok (.ireturn, 1) ∧ decode cX11_back 0 = .ok (.aload_n 0, 1) ∧ decode cX11_back 1 = .ok (.getfield 12, 3) ∧ decode cX11_back 4 = .ok (.invokevirtual 112, 3) ∧ decode cX11_back 7 = .ok (.istore_n 2, 1) ∧ decode cX11_back 8 = .ok (.aload_n 0, 1) ∧ decode cX11_back 9 = .ok (.iload_n 1, 1) ∧ decode cX11_back 10 = .ok (.invokevirtual 208, 3) ∧ decode cX11_back 13 = .ok (.ifCond .eq 14, 3) := by decide +kernel
theorem dX11_word_9 : decode cX11_word 9 = .ok (.invokevirtual 176, 3) := gd_X11_word_9.1
theorem dX11_word_12 : decode cX11_word 12 = .ok (.ireturn, 1) := gd_X11_word_9.2.1
theorem dX11_back_0 : decode cX11_back 0 = .ok (.aload_n 0, 1) := gd_X11_word_9.2.2.1
theorem dX11_back_1 : decode cX11_back 1 = .ok (.getfield 12, 3) := gd_X11_word_9.2.2.2.1
theorem dX11_back_4 : decode cX11_back 4 = .ok (.invokevirtual 112, 3) := gd_X11_word_9.2.2.2.2.1
theorem dX11_back_7 : decode cX11_back 7 = .ok (.istore_n 2, 1) := gd_X11_word_9.2.2.2.2.2.1
theorem dX11_back_8 : decode cX11_back 8 = .ok (.aload_n 0, 1) := gd_X11_word_9.2.2.2.2.2.2.1
theorem dX11_back_9 : decode cX11_back 9 = .ok (.iload_n 1, 1) := gd_X11_word_9.2.2.2.2.2.2.2.1
theorem dX11_back_10 : decode cX11_back 10 = .ok (.invokevirtual 208, 3) := gd_X11_word_9.2.2.2.2.2.2.2.2.1
theorem dX11_back_13 : decode cX11_back 13 = .ok (.ifCond .eq 14, 3) := gd_X11_word_9.2.2.2.2.2.2.2.2.2
theorem gd_X11_back_16 : decode cX11_back 16 = .ok (.aload_n 0, 1) ∧ decode cX11_back 17 = .ok (.getfield 12, 3) ∧ decode cX11_back 20 = .ok (.iload_n 2, 1) ∧ decode cX11_back 21 = .ok (.invokevirtual 164, 3) ∧ decode cX11_back 24 = .ok (.ifCond .ne 6, 3) ∧ decode cX11_back 27 = .ok (.bipush (-2), 2) ∧ decode cX11_back 29 = .ok (.ireturn, 1) ∧ decode cX11_old 0 = .ok (.iload_n 1, 1) ∧ decode cX11_old 1 = .ok (.ifCond .lt 11, 3) ∧ decode cX11_old 4 = .ok (.iload_n 1, 1) := by decide +kernel
theorem dX11_back_16 : decode cX11_back 16 = .ok (.aload_n 0, 1) := gd_X11_back_16.1
theorem dX11_back_17 : decode cX11_back 17 = .ok (.getfield 12, 3) := gd_X11_back_16.2.1
theorem dX11_back_20 : decode cX11_back 20 = .ok (.iload_n 2, 1) := gd_X11_back_16.2.2.1
theorem dX11_back_21 : decode cX11_back 21 = .ok (.invokevirtual 164, 3) := gd_X11_back_16.2.2.2.1
theorem dX11_back_24 : decode cX11_back 24 = .ok (.ifCond .ne 6, 3) := gd_X11_back_16.2.2.2.2.1
theorem dX11_back_27 : decode cX11_back 27 = .ok (.bipush (-2), 2) := gd_X11_back_16.2.2.2.2.2.1
theorem dX11_back_29 : decode cX11_back 29 = .ok (.ireturn, 1) := gd_X11_back_16.2.2.2.2.2.2.1
theorem dX11_old_0 : decode cX11_old 0 = .ok (.iload_n 1, 1) := gd_X11_back_16.2.2.2.2.2.2.2.1
theorem dX11_old_1 : decode cX11_old 1 = .ok (.ifCond .lt 11, 3) := gd_X11_back_16.2.2.2.2.2.2.2.2.1
theorem dX11_old_4 : decode cX11_old 4 = .ok (.iload_n 1, 1) := gd_X11_back_16.2.2.2.2.2.2.2.2.2
theorem gd_X11_old_5 : decode cX11_old 5 = .ok (.aload_n 0, 1) ∧ decode cX11_old 6 = .ok (.getfield 75, 3) ∧ decode cX11_old 9 = .ok (.if_icmp .lt 7, 3) ∧ decode cX11_old 12 = .ok (.iconst (-1), 1) ∧ decode cX11_old 13 = .ok (.goto 9, 3) ∧ decode cX11_old 22 = .ok (.ireturn, 1) ∧ decode cX11_collisions 0 = .ok (.aload_n 0, 1) ∧ decode cX11_collisions 1 = .ok (.iconst 0, 1) ∧ decode cX11_collisions 2 = .ok (.putfield 81, 3) ∧ decode cX11_collisions 5 = .ok (.aload_n 0, 1) := by decide +kernel
theorem dX11_old_5 : decode cX11_old 5 = .ok (.aload_n 0, 1) := gd_X11_old_5.1
theorem dX11_old_6 : decode cX11_old 6 = .ok (.getfield 75, 3) := gd_X11_old_5.2.1
theorem dX11_old_9 : decode cX11_old 9 = .ok (.if_icmp .lt 7, 3) := gd_X11_old_5.2.2.1
theorem dX11_old_12 : decode cX11_old 12 = .ok (.iconst (-1), 1) := gd_X11_old_5.2.2.2.1
theorem dX11_old_13 : decode cX11_old 13 = .ok (.goto 9, 3) := gd_X11_old_5.2.2.2.2.1
theorem dX11_old_22 : decode cX11_old 22 = .ok (.ireturn, 1) := gd_X11_old_5.2.2.2.2.2.1
theorem dX11_collisions_0 : decode cX11_collisions 0 = .ok (.aload_n 0, 1) := gd_X11_old_5.2.2.2.2.2.2.1
theorem dX11_collisions_1 : decode cX11_collisions 1 = .ok (.iconst 0, 1) := gd_X11_old_5.2.2.2.2.2.2.2.1
theorem dX11_collisions_2 : decode cX11_collisions 2 = .ok (.putfield 81, 3) := gd_X11_old_5.2.2.2.2.2.2.2.2.1
theorem dX11_collisions_5 : decode cX11_collisions 5 = .ok (.aload_n 0, 1) := gd_X11_old_5.2.2.2.2.2.2.2.2.2
theorem gd_X11_collisions_6 : decode cX11_collisions 6 = .ok (.iload_n 1, 1) ∧ decode cX11_collisions 7 = .ok (.invokevirtual 208, 3) ∧ decode cX11_collisions 10 = .ok (.ifCond .ne 6, 3) ∧ decode cX11_collisions 13 = .ok (.bipush (-2), 2) ∧ decode cX11_collisions 15 = .ok (.ireturn, 1) ∧ decode cX11_collisions 16 = .ok (.aload_n 0, 1) ∧ decode cX11_collisions 17 = .ok (.getfield 67, 3) ∧ decode cX11_collisions 20 = .ok (.iload_n 1, 1) ∧ decode cX11_collisions 21 = .ok (.aload_n 0, 1) ∧ decode cX11_collisions 22 = .ok (.getfield 18, 3) := by decide +kernel
theorem dX11_collisions_6 : decode cX11_collisions 6 = .ok (.iload_n 1, 1) := gd_X11_collisions_6.1
theorem dX11_collisions_7 : decode cX11_collisions 7 = .ok (.invokevirtual 208, 3) := gd_X11_collisions_6.2.1
theorem dX11_collisions_10 : decode cX11_collisions 10 = .ok (.ifCond .ne 6, 3) := gd_X11_collisions_6.2.2.1
theorem dX11_collisions_13 : decode cX11_collisions 13 = .ok (.bipush (-2), 2) := gd_X11_collisions_6.2.2.2.1
theorem dX11_collisions_15 : decode cX11_collisions 15 = .ok (.ireturn, 1) := gd_X11_collisions_6.2.2.2.2.1
theorem dX11_collisions_16 : decode cX11_collisions 16 = .ok (.aload_n 0, 1) := gd_X11_collisions_6.2.2.2.2.2.1
theorem dX11_collisions_17 : decode cX11_collisions 17 = .ok (.getfield 67, 3) := gd_X11_collisions_6.2.2.2.2.2.2.1
theorem dX11_collisions_20 : decode cX11_collisions 20 = .ok (.iload_n 1, 1) := gd_X11_collisions_6.2.2.2.2.2.2.2.1
theorem dX11_collisions_21 : decode cX11_collisions 21 = .ok (.aload_n 0, 1) := gd_X11_collisions_6.2.2.2.2.2.2.2.2.1
theorem dX11_collisions_22 : decode cX11_collisions 22 = .ok (.getfield 18, 3) := gd_X11_collisions_6.2.2.2.2.2.2.2.2.2
theorem gd_X11_collisions_25 : decode cX11_collisions 25 = .ok (.aload_n 0, 1) ∧ decode cX11_collisions 26 = .ok (.getfield 44, 3) ∧ decode cX11_collisions 29 = .ok (.invokevirtual 211, 3) ∧ decode cX11_collisions 32 = .ok (.iconst 0, 1) ∧ decode cX11_collisions 33 = .ok (.istore_n 2, 1) ∧ decode cX11_collisions 34 = .ok (.iconst 0, 1) ∧ decode cX11_collisions 35 = .ok (.istore_n 3, 1) ∧ decode cX11_collisions 36 = .ok (.iload_n 3, 1) ∧ decode cX11_collisions 37 = .ok (.aload_n 0, 1) ∧ decode cX11_collisions 38 = .ok (.getfield 67, 3) := by decide +kernel
theorem dX11_collisions_25 : decode cX11_collisions 25 = .ok (.aload_n 0, 1) := gd_X11_collisions_25.1
theorem dX11_collisions_26 : decode cX11_collisions 26 = .ok (.getfield 44, 3) := gd_X11_collisions_25.2.1
theorem dX11_collisions_29 : decode cX11_collisions 29 = .ok (.invokevirtual 211, 3) := gd_X11_collisions_25.2.2.1
theorem dX11_collisions_32 : decode cX11_collisions 32 = .ok (.iconst 0, 1) := gd_X11_collisions_25.2.2.2.1
theorem dX11_collisions_33 : decode cX11_collisions 33 = .ok (.istore_n 2, 1) := gd_X11_collisions_25.2.2.2.2.1
theorem dX11_collisions_34 : decode cX11_collisions 34 = .ok (.iconst 0, 1) := gd_X11_collisions_25.2.2.2.2.2.1
theorem dX11_collisions_35 : decode cX11_collisions 35 = .ok (.istore_n 3, 1) := gd_X11_collisions_25.2.2.2.2.2.2.1
theorem dX11_collisions_36 : decode cX11_collisions 36 = .ok (.iload_n 3, 1) := gd_X11_collisions_25.2.2.2.2.2.2.2.1
theorem dX11_collisions_37 : decode cX11_collisions 37 = .ok (.aload_n 0, 1) := gd_X11_collisions_25.2.2.2.2.2.2.2.2.1
theorem dX11_collisions_38 : decode cX11_collisions 38 = .ok (.getfield 67, 3) := gd_X11_collisions_25.2.2.2.2.2.2.2.2.2
theorem gd_X11_collisions_41 : decode cX11_collisions 41 = .ok (.getfield 197, 3) ∧ decode cX11_collisions 44 = .ok (.getfield 151, 3) ∧ decode cX11_collisions 47 = .ok (.if_icmp .ge 64, 3) ∧ decode cX11_collisions 111 = .ok (.iload_n 2, 1) ∧ decode cX11_collisions 112 = .ok (.ireturn, 1) ∧ decode cX11_collision 0 = .ok (.iload_n 1, 1) ∧ decode cX11_collision 1 = .ok (.ifCond .lt 11, 3) ∧ decode cX11_collision 4 = .ok (.iload_n 1, 1) ∧ decode cX11_collision 5 = .ok (.aload_n 0, 1) ∧ decode cX11_collision 6 = .ok (.getfield 81, 3) := by decide +kernel
theorem dX11_collisions_41 : decode cX11_collisions 41 = .ok (.getfield 197, 3) := gd_X11_collisions_41.1
theorem dX11_collisions_44 : decode cX11_collisions 44 = .ok (.getfield 151, 3) := gd_X11_collisions_41.2.1
theorem dX11_collisions_47 : decode cX11_collisions 47 = .ok (.if_icmp .ge 64, 3) := gd_X11_collisions_41.2.2.1
theorem dX11_collisions_111 : decode cX11_collisions 111 = .ok (.iload_n 2, 1) := gd_X11_collisions_41.2.2.2.1
theorem dX11_collisions_112 : decode cX11_collisions 112 = .ok (.ireturn, 1) := gd_X11_collisions_41.2.2.2.2.1
theorem dX11_collision_0 : decode cX11_collision 0 = .ok (.iload_n 1, 1) := gd_X11_collisions_41.2.2.2.2.2.1
theorem dX11_collision_1 : decode cX11_collision 1 = .ok (.ifCond .lt 11, 3) := gd_X11_collisions_41.2.2.2.2.2.2.1
theorem dX11_collision_4 : decode cX11_collision 4 = .ok (.iload_n 1, 1) := gd_X11_collisions_41.2.2.2.2.2.2.2.1
theorem dX11_collision_5 : decode cX11_collision 5 = .ok (.aload_n 0, 1) := gd_X11_collisions_41.2.2.2.2.2.2.2.2.1
theorem dX11_collision_6 : decode cX11_collision 6 = .ok (.getfield 81, 3) := gd_X11_collisions_41.2.2.2.2.2.2.2.2.2
theorem gd_X11_collision_9 : decode cX11_collision 9 = .ok (.if_icmp .lt 7, 3) ∧ decode cX11_collision 12 = .ok (.iconst (-1), 1) ∧ decode cX11_collision 13 = .ok (.goto 9, 3) ∧ decode cX11_collision 22 = .ok (.ireturn, 1) ∧ decode cX11_rhymes 0 = .ok (.aload_n 0, 1) ∧ decode cX11_rhymes 1 = .ok (.iload_n 1, 1) ∧ decode cX11_rhymes 2 = .ok (.invokevirtual 208, 3) ∧ decode cX11_rhymes 5 = .ok (.ifCond .ne 6, 3) ∧ decode cX11_rhymes 8 = .ok (.bipush (-2), 2) ∧ decode cX11_rhymes 10 = .ok (.ireturn, 1) := by decide +kernel
theorem dX11_collision_9 : decode cX11_collision 9 = .ok (.if_icmp .lt 7, 3) := gd_X11_collision_9.1
theorem dX11_collision_12 : decode cX11_collision 12 = .ok (.iconst (-1), 1) := gd_X11_collision_9.2.1
theorem dX11_collision_13 : decode cX11_collision 13 = .ok (.goto 9, 3) := gd_X11_collision_9.2.2.1
theorem dX11_collision_22 : decode cX11_collision 22 = .ok (.ireturn, 1) := gd_X11_collision_9.2.2.2.1
theorem dX11_rhymes_0 : decode cX11_rhymes 0 = .ok (.aload_n 0, 1) := gd_X11_collision_9.2.2.2.2.1
theorem dX11_rhymes_1 : decode cX11_rhymes 1 = .ok (.iload_n 1, 1) := gd_X11_collision_9.2.2.2.2.2.1
theorem dX11_rhymes_2 : decode cX11_rhymes 2 = .ok (.invokevirtual 208, 3) := gd_X11_collision_9.2.2.2.2.2.2.1
theorem dX11_rhymes_5 : decode cX11_rhymes 5 = .ok (.ifCond .ne 6, 3) := gd_X11_collision_9.2.2.2.2.2.2.2.1
theorem dX11_rhymes_8 : decode cX11_rhymes 8 = .ok (.bipush (-2), 2) := gd_X11_collision_9.2.2.2.2.2.2.2.2.1
theorem dX11_rhymes_10 : decode cX11_rhymes 10 = .ok (.ireturn, 1) := gd_X11_collision_9.2.2.2.2.2.2.2.2.2
theorem gd_X11_rhymes_11 : decode cX11_rhymes 11 = .ok (.aload_n 0, 1) ∧ decode cX11_rhymes 12 = .ok (.getfield 67, 3) ∧ decode cX11_rhymes 15 = .ok (.iload_n 1, 1) ∧ decode cX11_rhymes 16 = .ok (.aload_n 0, 1) ∧ decode cX11_rhymes 17 = .ok (.getfield 18, 3) ∧ decode cX11_rhymes 20 = .ok (.aload_n 0, 1) ∧ decode cX11_rhymes 21 = .ok (.getfield 44, 3) ∧ decode cX11_rhymes 24 = .ok (.invokevirtual 211, 3) ∧ decode cX11_rhymes 27 = .ok (.iconst 0, 1) ∧ decode cX11_rhymes 28 = .ok (.istore_n 2, 1) := by decide +kernel
theorem dX11_rhymes_11 : decode cX11_rhymes 11 = .ok (.aload_n 0, 1) := gd_X11_rhymes_11.1
theorem dX11_rhymes_12 : decode cX11_rhymes 12 = .ok (.getfield 67, 3) := gd_X11_rhymes_11.2.1
theorem dX11_rhymes_15 : decode cX11_rhymes 15 = .ok (.iload_n 1, 1) := gd_X11_rhymes_11.2.2.1
theorem dX11_rhymes_16 : decode cX11_rhymes 16 = .ok (.aload_n 0, 1) := gd_X11_rhymes_11.2.2.2.1
theorem dX11_rhymes_17 : decode cX11_rhymes 17 = .ok (.getfield 18, 3) := gd_X11_rhymes_11.2.2.2.2.1
theorem dX11_rhymes_20 : decode cX11_rhymes 20 = .ok (.aload_n 0, 1) := gd_X11_rhymes_11.2.2.2.2.2.1
theorem dX11_rhymes_21 : decode cX11_rhymes 21 = .ok (.getfield 44, 3) := gd_X11_rhymes_11.2.2.2.2.2.2.1
theorem dX11_rhymes_24 : decode cX11_rhymes 24 = .ok (.invokevirtual 211, 3) := gd_X11_rhymes_11.2.2.2.2.2.2.2.1
theorem dX11_rhymes_27 : decode cX11_rhymes 27 = .ok (.iconst 0, 1) := gd_X11_rhymes_11.2.2.2.2.2.2.2.2.1
theorem dX11_rhymes_28 : decode cX11_rhymes 28 = .ok (.istore_n 2, 1) := gd_X11_rhymes_11.2.2.2.2.2.2.2.2.2
theorem gd_X11_rhymes_29 : decode cX11_rhymes 29 = .ok (.iconst 0, 1) ∧ decode cX11_rhymes 30 = .ok (.istore_n 3, 1) ∧ decode cX11_rhymes 31 = .ok (.iload_n 3, 1) ∧ decode cX11_rhymes 32 = .ok (.aload_n 0, 1) ∧ decode cX11_rhymes 33 = .ok (.getfield 67, 3) ∧ decode cX11_rhymes 36 = .ok (.getfield 197, 3) ∧ decode cX11_rhymes 39 = .ok (.getfield 151, 3) ∧ decode cX11_rhymes 42 = .ok (.if_icmp .ge 75, 3) ∧ decode cX11_rhymes 117 = .ok (.iload_n 2, 1) ∧ decode cX11_rhymes 118 = .ok (.ireturn, 1) := by decide +kernel
theorem dX11_rhymes_29 : decode cX11_rhymes 29 = .ok (.iconst 0, 1) := gd_X11_rhymes_29.1
theorem dX11_rhymes_30 : decode cX11_rhymes 30 = .ok (.istore_n 3, 1) := gd_X11_rhymes_29.2.1
theorem dX11_rhymes_31 : decode cX11_rhymes 31 = .ok (.iload_n 3, 1) := gd_X11_rhymes_29.2.2.1
theorem dX11_rhymes_32 : decode cX11_rhymes 32 = .ok (.aload_n 0, 1) := gd_X11_rhymes_29.2.2.2.1
theorem dX11_rhymes_33 : decode cX11_rhymes 33 = .ok (.getfield 67, 3) := gd_X11_rhymes_29.2.2.2.2.1
theorem dX11_rhymes_36 : decode cX11_rhymes 36 = .ok (.getfield 197, 3) := gd_X11_rhymes_29.2.2.2.2.2.1
theorem dX11_rhymes_39 : decode cX11_rhymes 39 = .ok (.getfield 151, 3) := gd_X11_rhymes_29.2.2.2.2.2.2.1
theorem dX11_rhymes_42 : decode cX11_rhymes 42 = .ok (.if_icmp .ge 75, 3) := gd_X11_rhymes_29.2.2.2.2.2.2.2.1
theorem dX11_rhymes_117 : decode cX11_rhymes 117 = .ok (.iload_n 2, 1) := gd_X11_rhymes_29.2.2.2.2.2.2.2.2.1
theorem dX11_rhymes_118 : decode cX11_rhymes 118 = .ok (.ireturn, 1) := gd_X11_rhymes_29.2.2.2.2.2.2.2.2.2
theorem gd_X11_tell_0 : decode cX11_tell 0 = .ok (.aload_n 0, 1) ∧ decode cX11_tell 1 = .ok (.iload_n 1, 1) ∧ decode cX11_tell 2 = .ok (.invokevirtual 208, 3) ∧ decode cX11_tell 5 = .ok (.ifCond .eq 12, 3) ∧ decode cX11_tell 8 = .ok (.iload_n 2, 1) ∧ decode cX11_tell 9 = .ok (.ifCond .lt 8, 3) ∧ decode cX11_tell 12 = .ok (.iload_n 2, 1) ∧ decode cX11_tell 13 = .ok (.iconst 2, 1) ∧ decode cX11_tell 14 = .ok (.if_icmp .le 6, 3) ∧ decode cX11_tell 17 = .ok (.bipush (-2), 2) := by decide +kernel
theorem dX11_tell_0 : decode cX11_tell 0 = .ok (.aload_n 0, 1) := gd_X11_tell_0.1
theorem dX11_tell_1 : decode cX11_tell 1 = .ok (.iload_n 1, 1) := gd_X11_tell_0.2.1
theorem dX11_tell_2 : decode cX11_tell 2 = .ok (.invokevirtual 208, 3) := gd_X11_tell_0.2.2.1
theorem dX11_tell_5 : decode cX11_tell 5 = .ok (.ifCond .eq 12, 3) := gd_X11_tell_0.2.2.2.1
theorem dX11_tell_8 : decode cX11_tell 8 = .ok (.iload_n 2, 1) := gd_X11_tell_0.2.2.2.2.1
theorem dX11_tell_9 : decode cX11_tell 9 = .ok (.ifCond .lt 8, 3) := gd_X11_tell_0.2.2.2.2.2.1
theorem dX11_tell_12 : decode cX11_tell 12 = .ok (.iload_n 2, 1) := gd_X11_tell_0.2.2.2.2.2.2.1
theorem dX11_tell_13 : decode cX11_tell 13 = .ok (.iconst 2, 1) := gd_X11_tell_0.2.2.2.2.2.2.2.1
theorem dX11_tell_14 : decode cX11_tell 14 = .ok (.if_icmp .le 6, 3) := gd_X11_tell_0.2.2.2.2.2.2.2.2.1
theorem dX11_tell_17 : decode cX11_tell 17 = .ok (.bipush (-2), 2) := gd_X11_tell_0.2.2.2.2.2.2.2.2.2
theorem gd_X11_tell_19 : decode cX11_tell 19 = .ok (.ireturn, 1) ∧ decode cX11_tell 20 = .ok (.aload_n 0, 1) ∧ decode cX11_tell 21 = .ok (.getfield 67, 3) ∧ decode cX11_tell 24 = .ok (.iload_n 1, 1) ∧ decode cX11_tell 25 = .ok (.aload_n 0, 1) ∧ decode cX11_tell 26 = .ok (.getfield 18, 3) ∧ decode cX11_tell 29 = .ok (.aload_n 0, 1) ∧ decode cX11_tell 30 = .ok (.getfield 44, 3) ∧ decode cX11_tell 33 = .ok (.invokevirtual 211, 3) ∧ decode cX11_tell 36 = .ok (.iconst 0, 1) := by decide +kernel
theorem dX11_tell_19 : decode cX11_tell 19 = .ok (.ireturn, 1) := gd_X11_tell_19.1
theorem dX11_tell_20 : decode cX11_tell 20 = .ok (.aload_n 0, 1) := gd_X11_tell_19.2.1
theorem dX11_tell_21 : decode cX11_tell 21 = .ok (.getfield 67, 3) := gd_X11_tell_19.2.2.1
theorem dX11_tell_24 : decode cX11_tell 24 = .ok (.iload_n 1, 1) := gd_X11_tell_19.2.2.2.1
theorem dX11_tell_25 : decode cX11_tell 25 = .ok (.aload_n 0, 1) := gd_X11_tell_19.2.2.2.2.1
theorem dX11_tell_26 : decode cX11_tell 26 = .ok (.getfield 18, 3) := gd_X11_tell_19.2.2.2.2.2.1
theorem dX11_tell_29 : decode cX11_tell 29 = .ok (.aload_n 0, 1) := gd_X11_tell_19.2.2.2.2.2.2.1
theorem dX11_tell_30 : decode cX11_tell 30 = .ok (.getfield 44, 3) := gd_X11_tell_19.2.2.2.2.2.2.2.1
theorem dX11_tell_33 : decode cX11_tell 33 = .ok (.invokevirtual 211, 3) := gd_X11_tell_19.2.2.2.2.2.2.2.2.1
theorem dX11_tell_36 : decode cX11_tell 36 = .ok (.iconst 0, 1) := gd_X11_tell_19.2.2.2.2.2.2.2.2.2
theorem gd_X11_tell_37 : decode cX11_tell 37 = .ok (.istore_n 3, 1) ∧ decode cX11_tell 38 = .ok (.iconst 0, 1) ∧ decode cX11_tell 39 = .ok (.istore 4, 2) ∧ decode cX11_tell 41 = .ok (.iload 4, 2) ∧ decode cX11_tell 43 = .ok (.aload_n 0, 1) ∧ decode cX11_tell 44 = .ok (.getfield 67, 3) ∧ decode cX11_tell 47 = .ok (.getfield 197, 3) ∧ decode cX11_tell 50 = .ok (.getfield 151, 3) ∧ decode cX11_tell 53 = .ok (.if_icmp .ge 26, 3) ∧ decode cX11_tell 79 = .ok (.iload_n 3, 1) := by decide +kernel
theorem dX11_tell_37 : decode cX11_tell 37 = .ok (.istore_n 3, 1) := gd_X11_tell_37.1
theorem dX11_tell_38 : decode cX11_tell 38 = .ok (.iconst 0, 1) := gd_X11_tell_37.2.1
theorem dX11_tell_39 : decode cX11_tell 39 = .ok (.istore 4, 2) := gd_X11_tell_37.2.2.1
theorem dX11_tell_41 : decode cX11_tell 41 = .ok (.iload 4, 2) := gd_X11_tell_37.2.2.2.1
theorem dX11_tell_43 : decode cX11_tell 43 = .ok (.aload_n 0, 1) := gd_X11_tell_37.2.2.2.2.1
theorem dX11_tell_44 : decode cX11_tell 44 = .ok (.getfield 67, 3) := gd_X11_tell_37.2.2.2.2.2.1
theorem dX11_tell_47 : decode cX11_tell 47 = .ok (.getfield 197, 3) := gd_X11_tell_37.2.2.2.2.2.2.1
theorem dX11_tell_50 : decode cX11_tell 50 = .ok (.getfield 151, 3) := gd_X11_tell_37.2.2.2.2.2.2.2.1
theorem dX11_tell_53 : decode cX11_tell 53 = .ok (.if_icmp .ge 26, 3) := gd_X11_tell_37.2.2.2.2.2.2.2.2.1
theorem dX11_tell_79 : decode cX11_tell 79 = .ok (.iload_n 3, 1) := gd_X11_tell_37.2.2.2.2.2.2.2.2.2
theorem gd_X11_tell_80 : decode cX11_tell 80 = .ok (.ireturn, 1) ∧ decode cX11_uses 0 = .ok (.aload_n 0, 1) ∧ decode cX11_uses 1 = .ok (.iload_n 1, 1) ∧ decode cX11_uses 2 = .ok (.invokevirtual 138, 3) ∧ decode cX11_uses 5 = .ok (.astore_n 3, 1) ∧ decode cX11_uses 6 = .ok (.aload_n 3, 1) ∧ decode cX11_uses 7 = .ok (.ifnull 15, 3) ∧ decode cX11_uses 22 = .ok (.bipush (-2), 2) ∧ decode cX11_uses 24 = .ok (.ireturn, 1) ∧ decode cX11_write 0 = .ok (.aload_n 0, 1) := by decide +kernel
theorem dX11_tell_80 : decode cX11_tell 80 = .ok (.ireturn, 1) := gd_X11_tell_80.1
theorem dX11_uses_0 : decode cX11_uses 0 = .ok (.aload_n 0, 1) := gd_X11_tell_80.2.1
theorem dX11_uses_1 : decode cX11_uses 1 = .ok (.iload_n 1, 1) := gd_X11_tell_80.2.2.1
theorem dX11_uses_2 : decode cX11_uses 2 = .ok (.invokevirtual 138, 3) := gd_X11_tell_80.2.2.2.1
theorem dX11_uses_5 : decode cX11_uses 5 = .ok (.astore_n 3, 1) := gd_X11_tell_80.2.2.2.2.1
theorem dX11_uses_6 : decode cX11_uses 6 = .ok (.aload_n 3, 1) := gd_X11_tell_80.2.2.2.2.2.1
theorem dX11_uses_7 : decode cX11_uses 7 = .ok (.ifnull 15, 3) := gd_X11_tell_80.2.2.2.2.2.2.1
theorem dX11_uses_22 : decode cX11_uses 22 = .ok (.bipush (-2), 2) := gd_X11_tell_80.2.2.2.2.2.2.2.1
theorem dX11_uses_24 : decode cX11_uses 24 = .ok (.ireturn, 1) := gd_X11_tell_80.2.2.2.2.2.2.2.2.1
theorem dX11_write_0 : decode cX11_write 0 = .ok (.aload_n 0, 1) := gd_X11_tell_80.2.2.2.2.2.2.2.2.2
theorem gd_X11_write_1 : decode cX11_write 1 = .ok (.getfield 12, 3) ∧ decode cX11_write 4 = .ok (.invokevirtual 112, 3) ∧ decode cX11_write 7 = .ok (.istore_n 3, 1) ∧ decode cX11_write 8 = .ok (.aload_n 0, 1) ∧ decode cX11_write 9 = .ok (.iload_n 1, 1) ∧ decode cX11_write 10 = .ok (.iload_n 2, 1) ∧ decode cX11_write 11 = .ok (.invokevirtual 160, 3) ∧ decode cX11_write 14 = .ok (.ifCond .ne 6, 3) ∧ decode cX11_write 17 = .ok (.bipush (-2), 2) ∧ decode cX11_write 19 = .ok (.ireturn, 1) := by decide +kernel
theorem dX11_write_1 : decode cX11_write 1 = .ok (.getfield 12, 3) := gd_X11_write_1.1
theorem dX11_write_4 : decode cX11_write 4 = .ok (.invokevirtual 112, 3) := gd_X11_write_1.2.1
theorem dX11_write_7 : decode cX11_write 7 = .ok (.istore_n 3, 1) := gd_X11_write_1.2.2.1
theorem dX11_write_8 : decode cX11_write 8 = .ok (.aload_n 0, 1) := gd_X11_write_1.2.2.2.1
theorem dX11_write_9 : decode cX11_write 9 = .ok (.iload_n 1, 1) := gd_X11_write_1.2.2.2.2.1
theorem dX11_write_10 : decode cX11_write 10 = .ok (.iload_n 2, 1) := gd_X11_write_1.2.2.2.2.2.1
theorem dX11_write_11 : decode cX11_write 11 = .ok (.invokevirtual 160, 3) := gd_X11_write_1.2.2.2.2.2.2.1
theorem dX11_write_14 : decode cX11_write 14 = .ok (.ifCond .ne 6, 3) := gd_X11_write_1.2.2.2.2.2.2.2.1
theorem dX11_write_17 : decode cX11_write 17 = .ok (.bipush (-2), 2) := gd_X11_write_1.2.2.2.2.2.2.2.2.1
theorem dX11_write_19 : decode cX11_write 19 = .ok (.ireturn, 1) := gd_X11_write_1.2.2.2.2.2.2.2.2.2
theorem gd_X11_write_20 : decode cX11_write 20 = .ok (.aload_n 0, 1) ∧ decode cX11_write 21 = .ok (.getfield 12, 3) ∧ decode cX11_write 24 = .ok (.iload_n 3, 1) ∧ decode cX11_write 25 = .ok (.invokevirtual 239, 3) ∧ decode cX11_write 28 = .ok (.ifCond .eq 5, 3) ∧ decode cX11_write 33 = .ok (.aload_n 0, 1) ∧ decode cX11_write 34 = .ok (.getfield 87, 3) ∧ decode cX11_write 37 = .ok (.aload_n 0, 1) ∧ decode cX11_write 38 = .ok (.getfield 12, 3) ∧ decode cX11_write 41 = .ok (.getfield 120, 3) := by decide +kernel
theorem dX11_write_20 : decode cX11_write 20 = .ok (.aload_n 0, 1) := gd_X11_write_20.1
theorem dX11_write_21 : decode cX11_write 21 = .ok (.getfield 12, 3) := gd_X11_write_20.2.1
theorem dX11_write_24 : decode cX11_write 24 = .ok (.iload_n 3, 1) := gd_X11_write_20.2.2.1
theorem dX11_write_25 : decode cX11_write 25 = .ok (.invokevirtual 239, 3) := gd_X11_write_20.2.2.2.1
theorem dX11_write_28 : decode cX11_write 28 = .ok (.ifCond .eq 5, 3) := gd_X11_write_20.2.2.2.2.1
theorem dX11_write_33 : decode cX11_write 33 = .ok (.aload_n 0, 1) := gd_X11_write_20.2.2.2.2.2.1
theorem dX11_write_34 : decode cX11_write 34 = .ok (.getfield 87, 3) := gd_X11_write_20.2.2.2.2.2.2.1
theorem dX11_write_37 : decode cX11_write 37 = .ok (.aload_n 0, 1) := gd_X11_write_20.2.2.2.2.2.2.2.1
theorem dX11_write_38 : decode cX11_write 38 = .ok (.getfield 12, 3) := gd_X11_write_20.2.2.2.2.2.2.2.2.1
theorem dX11_write_41 : decode cX11_write 41 = .ok (.getfield 120, 3) := gd_X11_write_20.2.2.2.2.2.2.2.2.2
theorem gd_X11_write_44 : decode cX11_write 44 = .ok (.iload_n 3, 1) ∧ decode cX11_write 45 = .ok (.invokevirtual 242, 3) ∧ decode cX11_write 48 = .ok (.aload_n 0, 1) ∧ decode cX11_write 49 = .ok (.getfield 94, 3) ∧ decode cX11_write 52 = .ok (.invokevirtual 246, 3) ∧ decode cX11_write 55 = .ok (.iconst 0, 1) ∧ decode cX11_write 56 = .ok (.istore 4, 2) ∧ decode cX11_write 58 = .ok (.iload 4, 2) ∧ decode cX11_write 60 = .ok (.iload_n 3, 1) ∧ decode cX11_write 61 = .ok (.if_icmp .ge 106, 3) := by decide +kernel
theorem dX11_write_44 : decode cX11_write 44 = .ok (.iload_n 3, 1) := gd_X11_write_44.1
theorem dX11_write_45 : decode cX11_write 45 = .ok (.invokevirtual 242, 3) := gd_X11_write_44.2.1
theorem dX11_write_48 : decode cX11_write 48 = .ok (.aload_n 0, 1) := gd_X11_write_44.2.2.1
theorem dX11_write_49 : decode cX11_write 49 = .ok (.getfield 94, 3) := gd_X11_write_44.2.2.2.1
theorem dX11_write_52 : decode cX11_write 52 = .ok (.invokevirtual 246, 3) := gd_X11_write_44.2.2.2.2.1
theorem dX11_write_55 : decode cX11_write 55 = .ok (.iconst 0, 1) := gd_X11_write_44.2.2.2.2.2.1
theorem dX11_write_56 : decode cX11_write 56 = .ok (.istore 4, 2) := gd_X11_write_44.2.2.2.2.2.2.1
theorem dX11_write_58 : decode cX11_write 58 = .ok (.iload 4, 2) := gd_X11_write_44.2.2.2.2.2.2.2.1
theorem dX11_write_60 : decode cX11_write 60 = .ok (.iload_n 3, 1) := gd_X11_write_44.2.2.2.2.2.2.2.2.1
theorem dX11_write_61 : decode cX11_write 61 = .ok (.if_icmp .ge 106, 3) := gd_X11_write_44.2.2.2.2.2.2.2.2.2
theorem gd_X11_write_167 : decode cX11_write 167 = .ok (.aload_n 0, 1) ∧ decode cX11_write 168 = .ok (.getfield 94, 3) ∧ decode cX11_write 171 = .ok (.aload_n 0, 1) ∧ decode cX11_write 172 = .ok (.getfield 12, 3) ∧ decode cX11_write 175 = .ok (.getfield 120, 3) ∧ decode cX11_write 178 = .ok (.iload_n 3, 1) ∧ decode cX11_write 179 = .ok (.invokevirtual 269, 3) ∧ decode cX11_write 182 = .ok (.ireturn, 1) ∧ decode cX11_written 0 = .ok (.aload_n 0, 1) ∧ decode cX11_written 1 = .ok (.getfield 94, 3) := by decide +kernel
theorem dX11_write_167 : decode cX11_write 167 = .ok (.aload_n 0, 1) := gd_X11_write_167.1
theorem dX11_write_168 : decode cX11_write 168 = .ok (.getfield 94, 3) := gd_X11_write_167.2.1
theorem dX11_write_171 : decode cX11_write 171 = .ok (.aload_n 0, 1) := gd_X11_write_167.2.2.1
theorem dX11_write_172 : decode cX11_write 172 = .ok (.getfield 12, 3) := gd_X11_write_167.2.2.2.1
theorem dX11_write_175 : decode cX11_write 175 = .ok (.getfield 120, 3) := gd_X11_write_167.2.2.2.2.1
theorem dX11_write_178 : decode cX11_write 178 = .ok (.iload_n 3, 1) := gd_X11_write_167.2.2.2.2.2.1
theorem dX11_write_179 : decode cX11_write 179 = .ok (.invokevirtual 269, 3) := gd_X11_write_167.2.2.2.2.2.2.1
theorem dX11_write_182 : decode cX11_write 182 = .ok (.ireturn, 1) := gd_X11_write_167.2.2.2.2.2.2.2.1
theorem dX11_written_0 : decode cX11_written 0 = .ok (.aload_n 0, 1) := gd_X11_write_167.2.2.2.2.2.2.2.2.1
theorem dX11_written_1 : decode cX11_written 1 = .ok (.getfield 94, 3) := gd_X11_write_167.2.2.2.2.2.2.2.2.2
theorem gd_X11_written_4 : decode cX11_written 4 = .ok (.iload_n 1, 1) ∧ decode cX11_written 5 = .ok (.invokevirtual 273, 3) ∧ decode cX11_written 8 = .ok (.ireturn, 1) ∧ decode cX11_counted 0 = .ok (.aload_n 0, 1) ∧ decode cX11_counted 1 = .ok (.getfield 94, 3) ∧ decode cX11_counted 4 = .ok (.iload_n 1, 1) ∧ decode cX11_counted 5 = .ok (.invokevirtual 277, 3) ∧ decode cX11_counted 8 = .ok (.ireturn, 1) ∧ decode cX11_mixed 0 = .ok (.aload_n 0, 1) ∧ decode cX11_mixed 1 = .ok (.getfield 12, 3) := by decide +kernel
theorem dX11_written_4 : decode cX11_written 4 = .ok (.iload_n 1, 1) := gd_X11_written_4.1
theorem dX11_written_5 : decode cX11_written 5 = .ok (.invokevirtual 273, 3) := gd_X11_written_4.2.1
theorem dX11_written_8 : decode cX11_written 8 = .ok (.ireturn, 1) := gd_X11_written_4.2.2.1
theorem dX11_counted_0 : decode cX11_counted 0 = .ok (.aload_n 0, 1) := gd_X11_written_4.2.2.2.1
theorem dX11_counted_1 : decode cX11_counted 1 = .ok (.getfield 94, 3) := gd_X11_written_4.2.2.2.2.1
theorem dX11_counted_4 : decode cX11_counted 4 = .ok (.iload_n 1, 1) := gd_X11_written_4.2.2.2.2.2.1
theorem dX11_counted_5 : decode cX11_counted 5 = .ok (.invokevirtual 277, 3) := gd_X11_written_4.2.2.2.2.2.2.1
theorem dX11_counted_8 : decode cX11_counted 8 = .ok (.ireturn, 1) := gd_X11_written_4.2.2.2.2.2.2.2.1
theorem dX11_mixed_0 : decode cX11_mixed 0 = .ok (.aload_n 0, 1) := gd_X11_written_4.2.2.2.2.2.2.2.2.1
theorem dX11_mixed_1 : decode cX11_mixed 1 = .ok (.getfield 12, 3) := gd_X11_written_4.2.2.2.2.2.2.2.2.2
theorem gd_X11_mixed_4 : decode cX11_mixed 4 = .ok (.invokevirtual 112, 3) ∧ decode cX11_mixed 7 = .ok (.istore_n 2, 1) ∧ decode cX11_mixed 8 = .ok (.iload_n 1, 1) ∧ decode cX11_mixed 9 = .ok (.ifCond .lt 9, 3) ∧ decode cX11_mixed 12 = .ok (.iload_n 1, 1) ∧ decode cX11_mixed 13 = .ok (.bipush 50, 2) ∧ decode cX11_mixed 15 = .ok (.if_icmp .le 6, 3) ∧ decode cX11_mixed 18 = .ok (.bipush (-2), 2) ∧ decode cX11_mixed 20 = .ok (.ireturn, 1) ∧ decode cX11_mixed 21 = .ok (.aload_n 0, 1) := by decide +kernel
theorem dX11_mixed_4 : decode cX11_mixed 4 = .ok (.invokevirtual 112, 3) := gd_X11_mixed_4.1
theorem dX11_mixed_7 : decode cX11_mixed 7 = .ok (.istore_n 2, 1) := gd_X11_mixed_4.2.1
theorem dX11_mixed_8 : decode cX11_mixed 8 = .ok (.iload_n 1, 1) := gd_X11_mixed_4.2.2.1
theorem dX11_mixed_9 : decode cX11_mixed 9 = .ok (.ifCond .lt 9, 3) := gd_X11_mixed_4.2.2.2.1
theorem dX11_mixed_12 : decode cX11_mixed 12 = .ok (.iload_n 1, 1) := gd_X11_mixed_4.2.2.2.2.1
theorem dX11_mixed_13 : decode cX11_mixed 13 = .ok (.bipush 50, 2) := gd_X11_mixed_4.2.2.2.2.2.1
theorem dX11_mixed_15 : decode cX11_mixed 15 = .ok (.if_icmp .le 6, 3) := gd_X11_mixed_4.2.2.2.2.2.2.1
theorem dX11_mixed_18 : decode cX11_mixed 18 = .ok (.bipush (-2), 2) := gd_X11_mixed_4.2.2.2.2.2.2.2.1
theorem dX11_mixed_20 : decode cX11_mixed 20 = .ok (.ireturn, 1) := gd_X11_mixed_4.2.2.2.2.2.2.2.2.1
theorem dX11_mixed_21 : decode cX11_mixed 21 = .ok (.aload_n 0, 1) := gd_X11_mixed_4.2.2.2.2.2.2.2.2.2
theorem gd_X11_mixed_22 : decode cX11_mixed 22 = .ok (.getfield 12, 3) ∧ decode cX11_mixed 25 = .ok (.iload_n 2, 1) ∧ decode cX11_mixed 26 = .ok (.invokevirtual 280, 3) ∧ decode cX11_mixed 29 = .ok (.istore_n 3, 1) ∧ decode cX11_mixed 30 = .ok (.aload_n 0, 1) ∧ decode cX11_mixed 31 = .ok (.getfield 12, 3) ∧ decode cX11_mixed 34 = .ok (.iload_n 2, 1) ∧ decode cX11_mixed 35 = .ok (.invokevirtual 239, 3) ∧ decode cX11_mixed 38 = .ok (.ifCond .ne 9, 3) ∧ decode cX11_mixed 41 = .ok (.iload_n 3, 1) := by decide +kernel
theorem dX11_mixed_22 : decode cX11_mixed 22 = .ok (.getfield 12, 3) := gd_X11_mixed_22.1
theorem dX11_mixed_25 : decode cX11_mixed 25 = .ok (.iload_n 2, 1) := gd_X11_mixed_22.2.1
theorem dX11_mixed_26 : decode cX11_mixed 26 = .ok (.invokevirtual 280, 3) := gd_X11_mixed_22.2.2.1
theorem dX11_mixed_29 : decode cX11_mixed 29 = .ok (.istore_n 3, 1) := gd_X11_mixed_22.2.2.2.1
theorem dX11_mixed_30 : decode cX11_mixed 30 = .ok (.aload_n 0, 1) := gd_X11_mixed_22.2.2.2.2.1
theorem dX11_mixed_31 : decode cX11_mixed 31 = .ok (.getfield 12, 3) := gd_X11_mixed_22.2.2.2.2.2.1
theorem dX11_mixed_34 : decode cX11_mixed 34 = .ok (.iload_n 2, 1) := gd_X11_mixed_22.2.2.2.2.2.2.1
theorem dX11_mixed_35 : decode cX11_mixed 35 = .ok (.invokevirtual 239, 3) := gd_X11_mixed_22.2.2.2.2.2.2.2.1
theorem dX11_mixed_38 : decode cX11_mixed 38 = .ok (.ifCond .ne 9, 3) := gd_X11_mixed_22.2.2.2.2.2.2.2.2.1
theorem dX11_mixed_41 : decode cX11_mixed 41 = .ok (.iload_n 3, 1) := gd_X11_mixed_22.2.2.2.2.2.2.2.2.2
theorem gd_X11_mixed_42 : decode cX11_mixed 42 = .ok (.bipush 40, 2) ∧ decode cX11_mixed 44 = .ok (.if_icmp .le 5, 3) ∧ decode cX11_mixed 49 = .ok (.aload_n 0, 1) ∧ decode cX11_mixed 50 = .ok (.getfield 67, 3) ∧ decode cX11_mixed 53 = .ok (.aload_n 0, 1) ∧ decode cX11_mixed 54 = .ok (.getfield 22, 3) ∧ decode cX11_mixed 57 = .ok (.aload_n 0, 1) ∧ decode cX11_mixed 58 = .ok (.getfield 18, 3) ∧ decode cX11_mixed 61 = .ok (.aload_n 0, 1) ∧ decode cX11_mixed 62 = .ok (.getfield 44, 3) := by decide +kernel
theorem dX11_mixed_42 : decode cX11_mixed 42 = .ok (.bipush 40, 2) := gd_X11_mixed_42.1
theorem dX11_mixed_44 : decode cX11_mixed 44 = .ok (.if_icmp .le 5, 3) := gd_X11_mixed_42.2.1
theorem dX11_mixed_49 : decode cX11_mixed 49 = .ok (.aload_n 0, 1) := gd_X11_mixed_42.2.2.1
theorem dX11_mixed_50 : decode cX11_mixed 50 = .ok (.getfield 67, 3) := gd_X11_mixed_42.2.2.2.1
theorem dX11_mixed_53 : decode cX11_mixed 53 = .ok (.aload_n 0, 1) := gd_X11_mixed_42.2.2.2.2.1
theorem dX11_mixed_54 : decode cX11_mixed 54 = .ok (.getfield 22, 3) := gd_X11_mixed_42.2.2.2.2.2.1
theorem dX11_mixed_57 : decode cX11_mixed 57 = .ok (.aload_n 0, 1) := gd_X11_mixed_42.2.2.2.2.2.2.1
theorem dX11_mixed_58 : decode cX11_mixed 58 = .ok (.getfield 18, 3) := gd_X11_mixed_42.2.2.2.2.2.2.2.1
theorem dX11_mixed_61 : decode cX11_mixed 61 = .ok (.aload_n 0, 1) := gd_X11_mixed_42.2.2.2.2.2.2.2.2.1
theorem dX11_mixed_62 : decode cX11_mixed 62 = .ok (.getfield 44, 3) := gd_X11_mixed_42.2.2.2.2.2.2.2.2.2
theorem gd_X11_mixed_65 : decode cX11_mixed 65 = .ok (.invokevirtual 211, 3) ∧ decode cX11_mixed 68 = .ok (.aload_n 0, 1) ∧ decode cX11_mixed 69 = .ok (.getfield 101, 3) ∧ decode cX11_mixed 72 = .ok (.iload_n 3, 1) ∧ decode cX11_mixed 73 = .ok (.aload_n 0, 1) ∧ decode cX11_mixed 74 = .ok (.getfield 22, 3) ∧ decode cX11_mixed 77 = .ok (.iconst 1, 1) ∧ decode cX11_mixed 78 = .ok (.iadd, 1) ∧ decode cX11_mixed 79 = .ok (.invokevirtual 283, 3) ∧ decode cX11_mixed 82 = .ok (.aload_n 0, 1) := by decide +kernel
theorem dX11_mixed_65 : decode cX11_mixed 65 = .ok (.invokevirtual 211, 3) := gd_X11_mixed_65.1
theorem dX11_mixed_68 : decode cX11_mixed 68 = .ok (.aload_n 0, 1) := gd_X11_mixed_65.2.1
theorem dX11_mixed_69 : decode cX11_mixed 69 = .ok (.getfield 101, 3) := gd_X11_mixed_65.2.2.1
theorem dX11_mixed_72 : decode cX11_mixed 72 = .ok (.iload_n 3, 1) := gd_X11_mixed_65.2.2.2.1
theorem dX11_mixed_73 : decode cX11_mixed 73 = .ok (.aload_n 0, 1) := gd_X11_mixed_65.2.2.2.2.1
theorem dX11_mixed_74 : decode cX11_mixed 74 = .ok (.getfield 22, 3) := gd_X11_mixed_65.2.2.2.2.2.1
theorem dX11_mixed_77 : decode cX11_mixed 77 = .ok (.iconst 1, 1) := gd_X11_mixed_65.2.2.2.2.2.2.1
theorem dX11_mixed_78 : decode cX11_mixed 78 = .ok (.iadd, 1) := gd_X11_mixed_65.2.2.2.2.2.2.2.1
theorem dX11_mixed_79 : decode cX11_mixed 79 = .ok (.invokevirtual 283, 3) := gd_X11_mixed_65.2.2.2.2.2.2.2.2.1
theorem dX11_mixed_82 : decode cX11_mixed 82 = .ok (.aload_n 0, 1) := gd_X11_mixed_65.2.2.2.2.2.2.2.2.2
theorem gd_X11_mixed_83 : decode cX11_mixed 83 = .ok (.getfield 87, 3) ∧ decode cX11_mixed 86 = .ok (.aload_n 0, 1) ∧ decode cX11_mixed 87 = .ok (.getfield 12, 3) ∧ decode cX11_mixed 90 = .ok (.getfield 120, 3) ∧ decode cX11_mixed 93 = .ok (.iload_n 2, 1) ∧ decode cX11_mixed 94 = .ok (.invokevirtual 242, 3) ∧ decode cX11_mixed 97 = .ok (.iconst 0, 1) ∧ decode cX11_mixed 98 = .ok (.istore 4, 2) ∧ decode cX11_mixed 100 = .ok (.iload 4, 2) ∧ decode cX11_mixed 102 = .ok (.iload_n 2, 1) := by decide +kernel
theorem dX11_mixed_83 : decode cX11_mixed 83 = .ok (.getfield 87, 3) := gd_X11_mixed_83.1
theorem dX11_mixed_86 : decode cX11_mixed 86 = .ok (.aload_n 0, 1) := gd_X11_mixed_83.2.1
theorem dX11_mixed_87 : decode cX11_mixed 87 = .ok (.getfield 12, 3) := gd_X11_mixed_83.2.2.1
theorem dX11_mixed_90 : decode cX11_mixed 90 = .ok (.getfield 120, 3) := gd_X11_mixed_83.2.2.2.1
theorem dX11_mixed_93 : decode cX11_mixed 93 = .ok (.iload_n 2, 1) := gd_X11_mixed_83.2.2.2.2.1
theorem dX11_mixed_94 : decode cX11_mixed 94 = .ok (.invokevirtual 242, 3) := gd_X11_mixed_83.2.2.2.2.2.1
theorem dX11_mixed_97 : decode cX11_mixed 97 = .ok (.iconst 0, 1) := gd_X11_mixed_83.2.2.2.2.2.2.1
theorem dX11_mixed_98 : decode cX11_mixed 98 = .ok (.istore 4, 2) := gd_X11_mixed_83.2.2.2.2.2.2.2.1
theorem dX11_mixed_100 : decode cX11_mixed 100 = .ok (.iload 4, 2) := gd_X11_mixed_83.2.2.2.2.2.2.2.2.1
theorem dX11_mixed_102 : decode cX11_mixed 102 = .ok (.iload_n 2, 1) := gd_X11_mixed_83.2.2.2.2.2.2.2.2.2
theorem gd_X11_mixed_103 : decode cX11_mixed 103 = .ok (.if_icmp .ge 33, 3) ∧ decode cX11_mixed 136 = .ok (.aload_n 0, 1) ∧ decode cX11_mixed 137 = .ok (.getfield 101, 3) ∧ decode cX11_mixed 140 = .ok (.iload_n 1, 1) ∧ decode cX11_mixed 141 = .ok (.invokevirtual 288, 3) ∧ decode cX11_mixed 144 = .ok (.ireturn, 1) ∧ decode cX11_line 0 = .ok (.aload_n 0, 1) ∧ decode cX11_line 1 = .ok (.getfield 101, 3) ∧ decode cX11_line 4 = .ok (.iload_n 1, 1) ∧ decode cX11_line 5 = .ok (.invokevirtual 291, 3) := by decide +kernel
theorem dX11_mixed_103 : decode cX11_mixed 103 = .ok (.if_icmp .ge 33, 3) := gd_X11_mixed_103.1
theorem dX11_mixed_136 : decode cX11_mixed 136 = .ok (.aload_n 0, 1) := gd_X11_mixed_103.2.1
theorem dX11_mixed_137 : decode cX11_mixed 137 = .ok (.getfield 101, 3) := gd_X11_mixed_103.2.2.1
theorem dX11_mixed_140 : decode cX11_mixed 140 = .ok (.iload_n 1, 1) := gd_X11_mixed_103.2.2.2.1
theorem dX11_mixed_141 : decode cX11_mixed 141 = .ok (.invokevirtual 288, 3) := gd_X11_mixed_103.2.2.2.2.1
theorem dX11_mixed_144 : decode cX11_mixed 144 = .ok (.ireturn, 1) := gd_X11_mixed_103.2.2.2.2.2.1
theorem dX11_line_0 : decode cX11_line 0 = .ok (.aload_n 0, 1) := gd_X11_mixed_103.2.2.2.2.2.2.1
theorem dX11_line_1 : decode cX11_line 1 = .ok (.getfield 101, 3) := gd_X11_mixed_103.2.2.2.2.2.2.2.1
theorem dX11_line_4 : decode cX11_line 4 = .ok (.iload_n 1, 1) := gd_X11_mixed_103.2.2.2.2.2.2.2.2.1
theorem dX11_line_5 : decode cX11_line 5 = .ok (.invokevirtual 291, 3) := gd_X11_mixed_103.2.2.2.2.2.2.2.2.2
theorem gd_X11_line_8 : decode cX11_line 8 = .ok (.ireturn, 1) ∧ decode cX11_count 0 = .ok (.iload_n 1, 1) ∧ decode cX11_count 1 = .ok (.tableswitch 51 0 2 #[27, 32, 43], 27) ∧ decode cX11_count 28 = .ok (.aload_n 0, 1) ∧ decode cX11_count 29 = .ok (.getfield 22, 3) ∧ decode cX11_count 32 = .ok (.ireturn, 1) ∧ decode cX11_count 33 = .ok (.aload_n 0, 1) ∧ decode cX11_count 34 = .ok (.getfield 67, 3) ∧ decode cX11_count 37 = .ok (.getfield 197, 3) ∧ decode cX11_count 40 = .ok (.getfield 151, 3) := by decide +kernel
theorem dX11_line_8 : decode cX11_line 8 = .ok (.ireturn, 1) := gd_X11_line_8.1
theorem dX11_count_0 : decode cX11_count 0 = .ok (.iload_n 1, 1) := gd_X11_line_8.2.1
theorem dX11_count_1 : decode cX11_count 1 = .ok (.tableswitch 51 0 2 #[27, 32, 43], 27) := gd_X11_line_8.2.2.1
theorem dX11_count_28 : decode cX11_count 28 = .ok (.aload_n 0, 1) := gd_X11_line_8.2.2.2.1
theorem dX11_count_29 : decode cX11_count 29 = .ok (.getfield 22, 3) := gd_X11_line_8.2.2.2.2.1
theorem dX11_count_32 : decode cX11_count 32 = .ok (.ireturn, 1) := gd_X11_line_8.2.2.2.2.2.1
theorem dX11_count_33 : decode cX11_count 33 = .ok (.aload_n 0, 1) := gd_X11_line_8.2.2.2.2.2.2.1
theorem dX11_count_34 : decode cX11_count 34 = .ok (.getfield 67, 3) := gd_X11_line_8.2.2.2.2.2.2.2.1
theorem dX11_count_37 : decode cX11_count 37 = .ok (.getfield 197, 3) := gd_X11_line_8.2.2.2.2.2.2.2.2.1
theorem dX11_count_40 : decode cX11_count 40 = .ok (.getfield 151, 3) := gd_X11_line_8.2.2.2.2.2.2.2.2.2
theorem gd_X11_count_43 : decode cX11_count 43 = .ok (.ireturn, 1) ∧ decode cX11_count 44 = .ok (.aload_n 0, 1) ∧ decode cX11_count 45 = .ok (.getfield 12, 3) ∧ decode cX11_count 48 = .ok (.getfield 105, 3) ∧ decode cX11_count 51 = .ok (.ireturn, 1) ∧ decode cX11_count 52 = .ok (.iconst (-1), 1) ∧ decode cX11_count 53 = .ok (.ireturn, 1) ∧ decode cX11_reformAt 0 = .ok (.iload_n 1, 1) ∧ decode cX11_reformAt 1 = .ok (.ifCond .lt 11, 3) ∧ decode cX11_reformAt 4 = .ok (.iload_n 1, 1) := by decide +kernel
theorem dX11_count_43 : decode cX11_count 43 = .ok (.ireturn, 1) := gd_X11_count_43.1
theorem dX11_count_44 : decode cX11_count 44 = .ok (.aload_n 0, 1) := gd_X11_count_43.2.1
theorem dX11_count_45 : decode cX11_count 45 = .ok (.getfield 12, 3) := gd_X11_count_43.2.2.1
theorem dX11_count_48 : decode cX11_count 48 = .ok (.getfield 105, 3) := gd_X11_count_43.2.2.2.1
theorem dX11_count_51 : decode cX11_count 51 = .ok (.ireturn, 1) := gd_X11_count_43.2.2.2.2.1
theorem dX11_count_52 : decode cX11_count 52 = .ok (.iconst (-1), 1) := gd_X11_count_43.2.2.2.2.2.1
theorem dX11_count_53 : decode cX11_count 53 = .ok (.ireturn, 1) := gd_X11_count_43.2.2.2.2.2.2.1
theorem dX11_reformAt_0 : decode cX11_reformAt 0 = .ok (.iload_n 1, 1) := gd_X11_count_43.2.2.2.2.2.2.2.1
theorem dX11_reformAt_1 : decode cX11_reformAt 1 = .ok (.ifCond .lt 11, 3) := gd_X11_count_43.2.2.2.2.2.2.2.2.1
theorem dX11_reformAt_4 : decode cX11_reformAt 4 = .ok (.iload_n 1, 1) := gd_X11_count_43.2.2.2.2.2.2.2.2.2
theorem gd_X11_reformAt_5 : decode cX11_reformAt 5 = .ok (.aload_n 0, 1) ∧ decode cX11_reformAt 6 = .ok (.getfield 22, 3) ∧ decode cX11_reformAt 9 = .ok (.if_icmp .lt 7, 3) ∧ decode cX11_reformAt 12 = .ok (.aconst_null, 1) ∧ decode cX11_reformAt 13 = .ok (.goto 9, 3) ∧ decode cX11_reformAt 22 = .ok (.areturn, 1) ∧ decode cX11_isStage 0 = .ok (.iload_n 1, 1) ∧ decode cX11_isStage 1 = .ok (.ifCond .lt 15, 3) ∧ decode cX11_isStage 4 = .ok (.iload_n 1, 1) ∧ decode cX11_isStage 5 = .ok (.aload_n 0, 1) := by decide +kernel
theorem dX11_reformAt_5 : decode cX11_reformAt 5 = .ok (.aload_n 0, 1) := gd_X11_reformAt_5.1
theorem dX11_reformAt_6 : decode cX11_reformAt 6 = .ok (.getfield 22, 3) := gd_X11_reformAt_5.2.1
theorem dX11_reformAt_9 : decode cX11_reformAt 9 = .ok (.if_icmp .lt 7, 3) := gd_X11_reformAt_5.2.2.1
theorem dX11_reformAt_12 : decode cX11_reformAt 12 = .ok (.aconst_null, 1) := gd_X11_reformAt_5.2.2.2.1
theorem dX11_reformAt_13 : decode cX11_reformAt 13 = .ok (.goto 9, 3) := gd_X11_reformAt_5.2.2.2.2.1
theorem dX11_reformAt_22 : decode cX11_reformAt 22 = .ok (.areturn, 1) := gd_X11_reformAt_5.2.2.2.2.2.1
theorem dX11_isStage_0 : decode cX11_isStage 0 = .ok (.iload_n 1, 1) := gd_X11_reformAt_5.2.2.2.2.2.2.1
theorem dX11_isStage_1 : decode cX11_isStage 1 = .ok (.ifCond .lt 15, 3) := gd_X11_reformAt_5.2.2.2.2.2.2.2.1
theorem dX11_isStage_4 : decode cX11_isStage 4 = .ok (.iload_n 1, 1) := gd_X11_reformAt_5.2.2.2.2.2.2.2.2.1
theorem dX11_isStage_5 : decode cX11_isStage 5 = .ok (.aload_n 0, 1) := gd_X11_reformAt_5.2.2.2.2.2.2.2.2.2
theorem gd_X11_isStage_6 : decode cX11_isStage 6 = .ok (.getfield 22, 3) ∧ decode cX11_isStage 9 = .ok (.if_icmp .gt 7, 3) ∧ decode cX11_isStage 12 = .ok (.iconst 1, 1) ∧ decode cX11_isStage 13 = .ok (.goto 4, 3) ∧ decode cX11_isStage 16 = .ok (.iconst 0, 1) ∧ decode cX11_isStage 17 = .ok (.ireturn, 1) ∧ decode cX11_areStages 0 = .ok (.aload_n 0, 1) ∧ decode cX11_areStages 1 = .ok (.iload_n 1, 1) ∧ decode cX11_areStages 2 = .ok (.invokevirtual 208, 3) ∧ decode cX11_areStages 5 = .ok (.ifCond .eq 20, 3) := by decide +kernel
theorem dX11_isStage_6 : decode cX11_isStage 6 = .ok (.getfield 22, 3) := gd_X11_isStage_6.1
theorem dX11_isStage_9 : decode cX11_isStage 9 = .ok (.if_icmp .gt 7, 3) := gd_X11_isStage_6.2.1
theorem dX11_isStage_12 : decode cX11_isStage 12 = .ok (.iconst 1, 1) := gd_X11_isStage_6.2.2.1
theorem dX11_isStage_13 : decode cX11_isStage 13 = .ok (.goto 4, 3) := gd_X11_isStage_6.2.2.2.1
theorem dX11_isStage_16 : decode cX11_isStage 16 = .ok (.iconst 0, 1) := gd_X11_isStage_6.2.2.2.2.1
theorem dX11_isStage_17 : decode cX11_isStage 17 = .ok (.ireturn, 1) := gd_X11_isStage_6.2.2.2.2.2.1
theorem dX11_areStages_0 : decode cX11_areStages 0 = .ok (.aload_n 0, 1) := gd_X11_isStage_6.2.2.2.2.2.2.1
theorem dX11_areStages_1 : decode cX11_areStages 1 = .ok (.iload_n 1, 1) := gd_X11_isStage_6.2.2.2.2.2.2.2.1
theorem dX11_areStages_2 : decode cX11_areStages 2 = .ok (.invokevirtual 208, 3) := gd_X11_isStage_6.2.2.2.2.2.2.2.2.1
theorem dX11_areStages_5 : decode cX11_areStages 5 = .ok (.ifCond .eq 20, 3) := gd_X11_isStage_6.2.2.2.2.2.2.2.2.2
theorem gd_X11_areStages_8 : decode cX11_areStages 8 = .ok (.aload_n 0, 1) ∧ decode cX11_areStages 9 = .ok (.iload_n 2, 1) ∧ decode cX11_areStages 10 = .ok (.invokevirtual 208, 3) ∧ decode cX11_areStages 13 = .ok (.ifCond .eq 12, 3) ∧ decode cX11_areStages 16 = .ok (.iload_n 1, 1) ∧ decode cX11_areStages 17 = .ok (.iload_n 2, 1) ∧ decode cX11_areStages 18 = .ok (.if_icmp .gt 7, 3) ∧ decode cX11_areStages 21 = .ok (.iconst 1, 1) ∧ decode cX11_areStages 22 = .ok (.goto 4, 3) ∧ decode cX11_areStages 25 = .ok (.iconst 0, 1) := by decide +kernel
theorem dX11_areStages_8 : decode cX11_areStages 8 = .ok (.aload_n 0, 1) := gd_X11_areStages_8.1
theorem dX11_areStages_9 : decode cX11_areStages 9 = .ok (.iload_n 2, 1) := gd_X11_areStages_8.2.1
theorem dX11_areStages_10 : decode cX11_areStages 10 = .ok (.invokevirtual 208, 3) := gd_X11_areStages_8.2.2.1
theorem dX11_areStages_13 : decode cX11_areStages 13 = .ok (.ifCond .eq 12, 3) := gd_X11_areStages_8.2.2.2.1
theorem dX11_areStages_16 : decode cX11_areStages 16 = .ok (.iload_n 1, 1) := gd_X11_areStages_8.2.2.2.2.1
theorem dX11_areStages_17 : decode cX11_areStages 17 = .ok (.iload_n 2, 1) := gd_X11_areStages_8.2.2.2.2.2.1
theorem dX11_areStages_18 : decode cX11_areStages 18 = .ok (.if_icmp .gt 7, 3) := gd_X11_areStages_8.2.2.2.2.2.2.1
theorem dX11_areStages_21 : decode cX11_areStages 21 = .ok (.iconst 1, 1) := gd_X11_areStages_8.2.2.2.2.2.2.2.1
theorem dX11_areStages_22 : decode cX11_areStages 22 = .ok (.goto 4, 3) := gd_X11_areStages_8.2.2.2.2.2.2.2.2.1
theorem dX11_areStages_25 : decode cX11_areStages 25 = .ok (.iconst 0, 1) := gd_X11_areStages_8.2.2.2.2.2.2.2.2.2
theorem gd_X11_areStages_26 : decode cX11_areStages 26 = .ok (.ireturn, 1) ∧ decode cX12_init 0 = .ok (.aload_n 0, 1) ∧ decode cX12_init 1 = .ok (.invokespecial 1, 3) ∧ decode cX12_init 4 = .ok (.aload_n 0, 1) ∧ decode cX12_init 5 = .ok (.sipush 2000, 3) ∧ decode cX12_init 8 = .ok (.newarray .byte, 2) ∧ decode cX12_init 10 = .ok (.putfield 7, 3) ∧ decode cX12_init 13 = .ok (.aload_n 0, 1) ∧ decode cX12_init 14 = .ok (.iconst (-1), 1) ∧ decode cX12_init 15 = .ok (.putfield 13, 3) := by decide +kernel
theorem dX11_areStages_26 : decode cX11_areStages 26 = .ok (.ireturn, 1) := gd_X11_areStages_26.1
theorem dX12_init_0 : decode cX12_init 0 = .ok (.aload_n 0, 1) := gd_X11_areStages_26.2.1
theorem dX12_init_1 : decode cX12_init 1 = .ok (.invokespecial 1, 3) := gd_X11_areStages_26.2.2.1
theorem dX12_init_4 : decode cX12_init 4 = .ok (.aload_n 0, 1) := gd_X11_areStages_26.2.2.2.1
theorem dX12_init_5 : decode cX12_init 5 = .ok (.sipush 2000, 3) := gd_X11_areStages_26.2.2.2.2.1
theorem dX12_init_8 : decode cX12_init 8 = .ok (.newarray .byte, 2) := gd_X11_areStages_26.2.2.2.2.2.1
theorem dX12_init_10 : decode cX12_init 10 = .ok (.putfield 7, 3) := gd_X11_areStages_26.2.2.2.2.2.2.1
theorem dX12_init_13 : decode cX12_init 13 = .ok (.aload_n 0, 1) := gd_X11_areStages_26.2.2.2.2.2.2.2.1
theorem dX12_init_14 : decode cX12_init 14 = .ok (.iconst (-1), 1) := gd_X11_areStages_26.2.2.2.2.2.2.2.2.1
theorem dX12_init_15 : decode cX12_init 15 = .ok (.putfield 13, 3) := gd_X11_areStages_26.2.2.2.2.2.2.2.2.2
theorem gd_X12_init_18 : decode cX12_init 18 = .ok (.aload_n 0, 1) ∧ decode cX12_init 19 = .ok (.bipush 7, 2) ∧ decode cX12_init 21 = .ok (.newarray .int, 2) ∧ decode cX12_init 23 = .ok (.putfield 17, 3) ∧ decode cX12_init 26 = .ok (.aload_n 0, 1) ∧ decode cX12_init 27 = .ok (.bipush 7, 2) ∧ decode cX12_init 29 = .ok (.newarray .int, 2) ∧ decode cX12_init 31 = .ok (.putfield 21, 3) ∧ decode cX12_init 34 = .ok (.aload_n 0, 1) ∧ decode cX12_init 35 = .ok (.bipush 7, 2) := by decide +kernel
theorem dX12_init_18 : decode cX12_init 18 = .ok (.aload_n 0, 1) := gd_X12_init_18.1
theorem dX12_init_19 : decode cX12_init 19 = .ok (.bipush 7, 2) := gd_X12_init_18.2.1
theorem dX12_init_21 : decode cX12_init 21 = .ok (.newarray .int, 2) := gd_X12_init_18.2.2.1
theorem dX12_init_23 : decode cX12_init 23 = .ok (.putfield 17, 3) := gd_X12_init_18.2.2.2.1
theorem dX12_init_26 : decode cX12_init 26 = .ok (.aload_n 0, 1) := gd_X12_init_18.2.2.2.2.1
theorem dX12_init_27 : decode cX12_init 27 = .ok (.bipush 7, 2) := gd_X12_init_18.2.2.2.2.2.1
theorem dX12_init_29 : decode cX12_init 29 = .ok (.newarray .int, 2) := gd_X12_init_18.2.2.2.2.2.2.1
theorem dX12_init_31 : decode cX12_init 31 = .ok (.putfield 21, 3) := gd_X12_init_18.2.2.2.2.2.2.2.1
theorem dX12_init_34 : decode cX12_init 34 = .ok (.aload_n 0, 1) := gd_X12_init_18.2.2.2.2.2.2.2.2.1
theorem dX12_init_35 : decode cX12_init 35 = .ok (.bipush 7, 2) := gd_X12_init_18.2.2.2.2.2.2.2.2.2
theorem gd_X12_init_37 : decode cX12_init 37 = .ok (.newarray .int, 2) ∧ decode cX12_init 39 = .ok (.putfield 24, 3) ∧ decode cX12_init 42 = .ok (.aload_n 0, 1) ∧ decode cX12_init 43 = .ok (.bipush 7, 2) ∧ decode cX12_init 45 = .ok (.newarray .int, 2) ∧ decode cX12_init 47 = .ok (.putfield 27, 3) ∧ decode cX12_init 50 = .ok (.aload_n 0, 1) ∧ decode cX12_init 51 = .ok (.sipush 17920, 3) ∧ decode cX12_init 54 = .ok (.newarray .byte, 2) ∧ decode cX12_init 56 = .ok (.putfield 30, 3) := by decide +kernel
theorem dX12_init_37 : decode cX12_init 37 = .ok (.newarray .int, 2) := gd_X12_init_37.1
theorem dX12_init_39 : decode cX12_init 39 = .ok (.putfield 24, 3) := gd_X12_init_37.2.1
theorem dX12_init_42 : decode cX12_init 42 = .ok (.aload_n 0, 1) := gd_X12_init_37.2.2.1
theorem dX12_init_43 : decode cX12_init 43 = .ok (.bipush 7, 2) := gd_X12_init_37.2.2.2.1
theorem dX12_init_45 : decode cX12_init 45 = .ok (.newarray .int, 2) := gd_X12_init_37.2.2.2.2.1
theorem dX12_init_47 : decode cX12_init 47 = .ok (.putfield 27, 3) := gd_X12_init_37.2.2.2.2.2.1
theorem dX12_init_50 : decode cX12_init 50 = .ok (.aload_n 0, 1) := gd_X12_init_37.2.2.2.2.2.2.1
theorem dX12_init_51 : decode cX12_init 51 = .ok (.sipush 17920, 3) := gd_X12_init_37.2.2.2.2.2.2.2.1
theorem dX12_init_54 : decode cX12_init 54 = .ok (.newarray .byte, 2) := gd_X12_init_37.2.2.2.2.2.2.2.2.1
theorem dX12_init_56 : decode cX12_init 56 = .ok (.putfield 30, 3) := gd_X12_init_37.2.2.2.2.2.2.2.2.2
theorem gd_X12_init_59 : decode cX12_init 59 = .ok (.aload_n 0, 1) ∧ decode cX12_init 60 = .ok (.sipush 1120, 3) ∧ decode cX12_init 63 = .ok (.newarray .int, 2) ∧ decode cX12_init 65 = .ok (.putfield 33, 3) ∧ decode cX12_init 68 = .ok (.aload_n 0, 1) ∧ decode cX12_init 69 = .ok (.sipush 280, 3) ∧ decode cX12_init 72 = .ok (.newarray .boolean, 2) ∧ decode cX12_init 74 = .ok (.putfield 36, 3) ∧ decode cX12_init 77 = .ok (.aload_n 0, 1) ∧ decode cX12_init 78 = .ok (.sipush 280, 3) := by decide +kernel
theorem dX12_init_59 : decode cX12_init 59 = .ok (.aload_n 0, 1) := gd_X12_init_59.1
theorem dX12_init_60 : decode cX12_init 60 = .ok (.sipush 1120, 3) := gd_X12_init_59.2.1
theorem dX12_init_63 : decode cX12_init 63 = .ok (.newarray .int, 2) := gd_X12_init_59.2.2.1
theorem dX12_init_65 : decode cX12_init 65 = .ok (.putfield 33, 3) := gd_X12_init_59.2.2.2.1
theorem dX12_init_68 : decode cX12_init 68 = .ok (.aload_n 0, 1) := gd_X12_init_59.2.2.2.2.1
theorem dX12_init_69 : decode cX12_init 69 = .ok (.sipush 280, 3) := gd_X12_init_59.2.2.2.2.2.1
theorem dX12_init_72 : decode cX12_init 72 = .ok (.newarray .boolean, 2) := gd_X12_init_59.2.2.2.2.2.2.1
theorem dX12_init_74 : decode cX12_init 74 = .ok (.putfield 36, 3) := gd_X12_init_59.2.2.2.2.2.2.2.1
theorem dX12_init_77 : decode cX12_init 77 = .ok (.aload_n 0, 1) := gd_X12_init_59.2.2.2.2.2.2.2.2.1
theorem dX12_init_78 : decode cX12_init 78 = .ok (.sipush 280, 3) := gd_X12_init_59.2.2.2.2.2.2.2.2.2
theorem gd_X12_init_81 : decode cX12_init 81 = .ok (.newarray .boolean, 2) ∧ decode cX12_init 83 = .ok (.putfield 40, 3) ∧ decode cX12_init 86 = .ok (.aload_n 0, 1) ∧ decode cX12_init 87 = .ok (.sipush 4480, 3) ∧ decode cX12_init 90 = .ok (.newarray .byte, 2) ∧ decode cX12_init 92 = .ok (.putfield 43, 3) ∧ decode cX12_init 95 = .ok (.aload_n 0, 1) ∧ decode cX12_init 96 = .ok (.sipush 280, 3) ∧ decode cX12_init 99 = .ok (.newarray .int, 2) ∧ decode cX12_init 101 = .ok (.putfield 46, 3) := by decide +kernel
theorem dX12_init_81 : decode cX12_init 81 = .ok (.newarray .boolean, 2) := gd_X12_init_81.1
theorem dX12_init_83 : decode cX12_init 83 = .ok (.putfield 40, 3) := gd_X12_init_81.2.1
theorem dX12_init_86 : decode cX12_init 86 = .ok (.aload_n 0, 1) := gd_X12_init_81.2.2.1
theorem dX12_init_87 : decode cX12_init 87 = .ok (.sipush 4480, 3) := gd_X12_init_81.2.2.2.1
theorem dX12_init_90 : decode cX12_init 90 = .ok (.newarray .byte, 2) := gd_X12_init_81.2.2.2.2.1
theorem dX12_init_92 : decode cX12_init 92 = .ok (.putfield 43, 3) := gd_X12_init_81.2.2.2.2.2.1
theorem dX12_init_95 : decode cX12_init 95 = .ok (.aload_n 0, 1) := gd_X12_init_81.2.2.2.2.2.2.1
theorem dX12_init_96 : decode cX12_init 96 = .ok (.sipush 280, 3) := gd_X12_init_81.2.2.2.2.2.2.2.1
theorem dX12_init_99 : decode cX12_init 99 = .ok (.newarray .int, 2) := gd_X12_init_81.2.2.2.2.2.2.2.2.1
theorem dX12_init_101 : decode cX12_init 101 = .ok (.putfield 46, 3) := gd_X12_init_81.2.2.2.2.2.2.2.2.2
theorem gd_X12_init_104 : decode cX12_init 104 = .ok (.aload_n 0, 1) ∧ decode cX12_init 105 = .ok (.sipush 8960, 3) ∧ decode cX12_init 108 = .ok (.newarray .byte, 2) ∧ decode cX12_init 110 = .ok (.putfield 49, 3) ∧ decode cX12_init 113 = .ok (.aload_n 0, 1) ∧ decode cX12_init 114 = .ok (.sipush 560, 3) ∧ decode cX12_init 117 = .ok (.newarray .int, 2) ∧ decode cX12_init 119 = .ok (.putfield 52, 3) ∧ decode cX12_init 122 = .ok (.aload_n 0, 1) ∧ decode cX12_init 123 = .ok (.bipush 24, 2) := by decide +kernel
theorem dX12_init_104 : decode cX12_init 104 = .ok (.aload_n 0, 1) := gd_X12_init_104.1
theorem dX12_init_105 : decode cX12_init 105 = .ok (.sipush 8960, 3) := gd_X12_init_104.2.1
theorem dX12_init_108 : decode cX12_init 108 = .ok (.newarray .byte, 2) := gd_X12_init_104.2.2.1
theorem dX12_init_110 : decode cX12_init 110 = .ok (.putfield 49, 3) := gd_X12_init_104.2.2.2.1
theorem dX12_init_113 : decode cX12_init 113 = .ok (.aload_n 0, 1) := gd_X12_init_104.2.2.2.2.1
theorem dX12_init_114 : decode cX12_init 114 = .ok (.sipush 560, 3) := gd_X12_init_104.2.2.2.2.2.1
theorem dX12_init_117 : decode cX12_init 117 = .ok (.newarray .int, 2) := gd_X12_init_104.2.2.2.2.2.2.1
theorem dX12_init_119 : decode cX12_init 119 = .ok (.putfield 52, 3) := gd_X12_init_104.2.2.2.2.2.2.2.1
theorem dX12_init_122 : decode cX12_init 122 = .ok (.aload_n 0, 1) := gd_X12_init_104.2.2.2.2.2.2.2.2.1
theorem dX12_init_123 : decode cX12_init 123 = .ok (.bipush 24, 2) := gd_X12_init_104.2.2.2.2.2.2.2.2.2
theorem gd_X12_init_125 : decode cX12_init 125 = .ok (.newarray .byte, 2) ∧ decode cX12_init 127 = .ok (.putfield 55, 3) ∧ decode cX12_init 130 = .ok (.aload_n 0, 1) ∧ decode cX12_init 131 = .ok (.bipush 24, 2) ∧ decode cX12_init 133 = .ok (.newarray .int, 2) ∧ decode cX12_init 135 = .ok (.putfield 58, 3) ∧ decode cX12_init 138 = .ok (.aload_n 0, 1) ∧ decode cX12_init 139 = .ok (.sipush 720, 3) ∧ decode cX12_init 142 = .ok (.newarray .int, 2) ∧ decode cX12_init 144 = .ok (.putfield 61, 3) := by decide +kernel
theorem dX12_init_125 : decode cX12_init 125 = .ok (.newarray .byte, 2) := gd_X12_init_125.1
theorem dX12_init_127 : decode cX12_init 127 = .ok (.putfield 55, 3) := gd_X12_init_125.2.1
theorem dX12_init_130 : decode cX12_init 130 = .ok (.aload_n 0, 1) := gd_X12_init_125.2.2.1
theorem dX12_init_131 : decode cX12_init 131 = .ok (.bipush 24, 2) := gd_X12_init_125.2.2.2.1
theorem dX12_init_133 : decode cX12_init 133 = .ok (.newarray .int, 2) := gd_X12_init_125.2.2.2.2.1
theorem dX12_init_135 : decode cX12_init 135 = .ok (.putfield 58, 3) := gd_X12_init_125.2.2.2.2.2.1
theorem dX12_init_138 : decode cX12_init 138 = .ok (.aload_n 0, 1) := gd_X12_init_125.2.2.2.2.2.2.1
theorem dX12_init_139 : decode cX12_init 139 = .ok (.sipush 720, 3) := gd_X12_init_125.2.2.2.2.2.2.2.1
theorem dX12_init_142 : decode cX12_init 142 = .ok (.newarray .int, 2) := gd_X12_init_125.2.2.2.2.2.2.2.2.1
theorem dX12_init_144 : decode cX12_init 144 = .ok (.putfield 61, 3) := gd_X12_init_125.2.2.2.2.2.2.2.2.2
theorem gd_X12_init_147 : decode cX12_init 147 = .ok (.aload_n 0, 1) ∧ decode cX12_init 148 = .ok (.bipush 30, 2) ∧ decode cX12_init 150 = .ok (.newarray .int, 2) ∧ decode cX12_init 152 = .ok (.putfield 64, 3) ∧ decode cX12_init 155 = .ok (.aload_n 0, 1) ∧ decode cX12_init 156 = .ok (.bipush 25, 2) ∧ decode cX12_init 158 = .ok (.newarray .boolean, 2) ∧ decode cX12_init 160 = .ok (.putfield 67, 3) ∧ decode cX12_init 163 = .ok (.aload_n 0, 1) ∧ decode cX12_init 164 = .ok (.sipush 400, 3) := by decide +kernel
theorem dX12_init_147 : decode cX12_init 147 = .ok (.aload_n 0, 1) := gd_X12_init_147.1
theorem dX12_init_148 : decode cX12_init 148 = .ok (.bipush 30, 2) := gd_X12_init_147.2.1
theorem dX12_init_150 : decode cX12_init 150 = .ok (.newarray .int, 2) := gd_X12_init_147.2.2.1
theorem dX12_init_152 : decode cX12_init 152 = .ok (.putfield 64, 3) := gd_X12_init_147.2.2.2.1
theorem dX12_init_155 : decode cX12_init 155 = .ok (.aload_n 0, 1) := gd_X12_init_147.2.2.2.2.1
theorem dX12_init_156 : decode cX12_init 156 = .ok (.bipush 25, 2) := gd_X12_init_147.2.2.2.2.2.1
theorem dX12_init_158 : decode cX12_init 158 = .ok (.newarray .boolean, 2) := gd_X12_init_147.2.2.2.2.2.2.1
theorem dX12_init_160 : decode cX12_init 160 = .ok (.putfield 67, 3) := gd_X12_init_147.2.2.2.2.2.2.2.1
theorem dX12_init_163 : decode cX12_init 163 = .ok (.aload_n 0, 1) := gd_X12_init_147.2.2.2.2.2.2.2.2.1
theorem dX12_init_164 : decode cX12_init 164 = .ok (.sipush 400, 3) := gd_X12_init_147.2.2.2.2.2.2.2.2.2
theorem gd_X12_init_167 : decode cX12_init 167 = .ok (.newarray .byte, 2) ∧ decode cX12_init 169 = .ok (.putfield 70, 3) ∧ decode cX12_init 172 = .ok (.aload_n 0, 1) ∧ decode cX12_init 173 = .ok (.sipush 400, 3) ∧ decode cX12_init 176 = .ok (.newarray .byte, 2) ∧ decode cX12_init 178 = .ok (.putfield 73, 3) ∧ decode cX12_init 181 = .ok (.aload_n 0, 1) ∧ decode cX12_init 182 = .ok (.sipush 720, 3) ∧ decode cX12_init 185 = .ok (.newarray .byte, 2) ∧ decode cX12_init 187 = .ok (.putfield 76, 3) := by decide +kernel
theorem dX12_init_167 : decode cX12_init 167 = .ok (.newarray .byte, 2) := gd_X12_init_167.1
theorem dX12_init_169 : decode cX12_init 169 = .ok (.putfield 70, 3) := gd_X12_init_167.2.1
theorem dX12_init_172 : decode cX12_init 172 = .ok (.aload_n 0, 1) := gd_X12_init_167.2.2.1
theorem dX12_init_173 : decode cX12_init 173 = .ok (.sipush 400, 3) := gd_X12_init_167.2.2.2.1
theorem dX12_init_176 : decode cX12_init 176 = .ok (.newarray .byte, 2) := gd_X12_init_167.2.2.2.2.1
theorem dX12_init_178 : decode cX12_init 178 = .ok (.putfield 73, 3) := gd_X12_init_167.2.2.2.2.2.1
theorem dX12_init_181 : decode cX12_init 181 = .ok (.aload_n 0, 1) := gd_X12_init_167.2.2.2.2.2.2.1
theorem dX12_init_182 : decode cX12_init 182 = .ok (.sipush 720, 3) := gd_X12_init_167.2.2.2.2.2.2.2.1
theorem dX12_init_185 : decode cX12_init 185 = .ok (.newarray .byte, 2) := gd_X12_init_167.2.2.2.2.2.2.2.2.1
theorem dX12_init_187 : decode cX12_init 187 = .ok (.putfield 76, 3) := gd_X12_init_167.2.2.2.2.2.2.2.2.2
theorem gd_X12_init_190 : decode cX12_init 190 = .ok (.aload_n 0, 1) ∧ decode cX12_init 191 = .ok (.bipush 30, 2) ∧ decode cX12_init 193 = .ok (.newarray .int, 2) ∧ decode cX12_init 195 = .ok (.putfield 79, 3) ∧ decode cX12_init 198 = .ok (.aload_n 0, 1) ∧ decode cX12_init 199 = .ok (.sipush 288, 3) ∧ decode cX12_init 202 = .ok (.newarray .byte, 2) ∧ decode cX12_init 204 = .ok (.putfield 82, 3) ∧ decode cX12_init 207 = .ok (.aload_n 0, 1) ∧ decode cX12_init 208 = .ok (.bipush 12, 2) := by decide +kernel
theorem dX12_init_190 : decode cX12_init 190 = .ok (.aload_n 0, 1) := gd_X12_init_190.1
theorem dX12_init_191 : decode cX12_init 191 = .ok (.bipush 30, 2) := gd_X12_init_190.2.1
theorem dX12_init_193 : decode cX12_init 193 = .ok (.newarray .int, 2) := gd_X12_init_190.2.2.1
theorem dX12_init_195 : decode cX12_init 195 = .ok (.putfield 79, 3) := gd_X12_init_190.2.2.2.1
theorem dX12_init_198 : decode cX12_init 198 = .ok (.aload_n 0, 1) := gd_X12_init_190.2.2.2.2.1
theorem dX12_init_199 : decode cX12_init 199 = .ok (.sipush 288, 3) := gd_X12_init_190.2.2.2.2.2.1
theorem dX12_init_202 : decode cX12_init 202 = .ok (.newarray .byte, 2) := gd_X12_init_190.2.2.2.2.2.2.1
theorem dX12_init_204 : decode cX12_init 204 = .ok (.putfield 82, 3) := gd_X12_init_190.2.2.2.2.2.2.2.1
theorem dX12_init_207 : decode cX12_init 207 = .ok (.aload_n 0, 1) := gd_X12_init_190.2.2.2.2.2.2.2.2.1
theorem dX12_init_208 : decode cX12_init 208 = .ok (.bipush 12, 2) := gd_X12_init_190.2.2.2.2.2.2.2.2.2
theorem gd_X12_init_210 : decode cX12_init 210 = .ok (.newarray .int, 2) ∧ decode cX12_init 212 = .ok (.putfield 85, 3) ∧ decode cX12_init 215 = .ok (.aload_n 0, 1) ∧ decode cX12_init 216 = .ok (.sipush 288, 3) ∧ decode cX12_init 219 = .ok (.newarray .byte, 2) ∧ decode cX12_init 221 = .ok (.putfield 88, 3) ∧ decode cX12_init 224 = .ok (.aload_n 0, 1) ∧ decode cX12_init 225 = .ok (.bipush 12, 2) ∧ decode cX12_init 227 = .ok (.newarray .int, 2) ∧ decode cX12_init 229 = .ok (.putfield 91, 3) := by decide +kernel
theorem dX12_init_210 : decode cX12_init 210 = .ok (.newarray .int, 2) := gd_X12_init_210.1
theorem dX12_init_212 : decode cX12_init 212 = .ok (.putfield 85, 3) := gd_X12_init_210.2.1
theorem dX12_init_215 : decode cX12_init 215 = .ok (.aload_n 0, 1) := gd_X12_init_210.2.2.1
theorem dX12_init_216 : decode cX12_init 216 = .ok (.sipush 288, 3) := gd_X12_init_210.2.2.2.1
theorem dX12_init_219 : decode cX12_init 219 = .ok (.newarray .byte, 2) := gd_X12_init_210.2.2.2.2.1
theorem dX12_init_221 : decode cX12_init 221 = .ok (.putfield 88, 3) := gd_X12_init_210.2.2.2.2.2.1
theorem dX12_init_224 : decode cX12_init 224 = .ok (.aload_n 0, 1) := gd_X12_init_210.2.2.2.2.2.2.1
theorem dX12_init_225 : decode cX12_init 225 = .ok (.bipush 12, 2) := gd_X12_init_210.2.2.2.2.2.2.2.1
theorem dX12_init_227 : decode cX12_init 227 = .ok (.newarray .int, 2) := gd_X12_init_210.2.2.2.2.2.2.2.2.1
theorem dX12_init_229 : decode cX12_init 229 = .ok (.putfield 91, 3) := gd_X12_init_210.2.2.2.2.2.2.2.2.2
theorem gd_X12_init_232 : decode cX12_init 232 = .ok (.aload_n 0, 1) ∧ decode cX12_init 233 = .ok (.sipush 288, 3) ∧ decode cX12_init 236 = .ok (.newarray .byte, 2) ∧ decode cX12_init 238 = .ok (.putfield 94, 3) ∧ decode cX12_init 241 = .ok (.aload_n 0, 1) ∧ decode cX12_init 242 = .ok (.bipush 12, 2) ∧ decode cX12_init 244 = .ok (.newarray .int, 2) ∧ decode cX12_init 246 = .ok (.putfield 97, 3) ∧ decode cX12_init 249 = .ok (.aload_n 0, 1) ∧ decode cX12_init 250 = .ok (.sipush 720, 3) := by decide +kernel
theorem dX12_init_232 : decode cX12_init 232 = .ok (.aload_n 0, 1) := gd_X12_init_232.1
theorem dX12_init_233 : decode cX12_init 233 = .ok (.sipush 288, 3) := gd_X12_init_232.2.1
theorem dX12_init_236 : decode cX12_init 236 = .ok (.newarray .byte, 2) := gd_X12_init_232.2.2.1
theorem dX12_init_238 : decode cX12_init 238 = .ok (.putfield 94, 3) := gd_X12_init_232.2.2.2.1
theorem dX12_init_241 : decode cX12_init 241 = .ok (.aload_n 0, 1) := gd_X12_init_232.2.2.2.2.1
theorem dX12_init_242 : decode cX12_init 242 = .ok (.bipush 12, 2) := gd_X12_init_232.2.2.2.2.2.1
theorem dX12_init_244 : decode cX12_init 244 = .ok (.newarray .int, 2) := gd_X12_init_232.2.2.2.2.2.2.1
theorem dX12_init_246 : decode cX12_init 246 = .ok (.putfield 97, 3) := gd_X12_init_232.2.2.2.2.2.2.2.1
theorem dX12_init_249 : decode cX12_init 249 = .ok (.aload_n 0, 1) := gd_X12_init_232.2.2.2.2.2.2.2.2.1
theorem dX12_init_250 : decode cX12_init 250 = .ok (.sipush 720, 3) := gd_X12_init_232.2.2.2.2.2.2.2.2.2
theorem gd_X12_init_253 : decode cX12_init 253 = .ok (.newarray .int, 2) ∧ decode cX12_init 255 = .ok (.putfield 100, 3) ∧ decode cX12_init 258 = .ok (.aload_n 0, 1) ∧ decode cX12_init 259 = .ok (.bipush 30, 2) ∧ decode cX12_init 261 = .ok (.newarray .int, 2) ∧ decode cX12_init 263 = .ok (.putfield 103, 3) ∧ decode cX12_init 266 = .ok (.aload_n 0, 1) ∧ decode cX12_init 267 = .ok (.sipush 2400, 3) ∧ decode cX12_init 270 = .ok (.newarray .byte, 2) ∧ decode cX12_init 272 = .ok (.putfield 106, 3) := by decide +kernel
theorem dX12_init_253 : decode cX12_init 253 = .ok (.newarray .int, 2) := gd_X12_init_253.1
theorem dX12_init_255 : decode cX12_init 255 = .ok (.putfield 100, 3) := gd_X12_init_253.2.1
theorem dX12_init_258 : decode cX12_init 258 = .ok (.aload_n 0, 1) := gd_X12_init_253.2.2.1
theorem dX12_init_259 : decode cX12_init 259 = .ok (.bipush 30, 2) := gd_X12_init_253.2.2.2.1
theorem dX12_init_261 : decode cX12_init 261 = .ok (.newarray .int, 2) := gd_X12_init_253.2.2.2.2.1
theorem dX12_init_263 : decode cX12_init 263 = .ok (.putfield 103, 3) := gd_X12_init_253.2.2.2.2.2.1
theorem dX12_init_266 : decode cX12_init 266 = .ok (.aload_n 0, 1) := gd_X12_init_253.2.2.2.2.2.2.1
theorem dX12_init_267 : decode cX12_init 267 = .ok (.sipush 2400, 3) := gd_X12_init_253.2.2.2.2.2.2.2.1
theorem dX12_init_270 : decode cX12_init 270 = .ok (.newarray .byte, 2) := gd_X12_init_253.2.2.2.2.2.2.2.2.1
theorem dX12_init_272 : decode cX12_init 272 = .ok (.putfield 106, 3) := gd_X12_init_253.2.2.2.2.2.2.2.2.2
theorem gd_X12_init_275 : decode cX12_init 275 = .ok (.aload_n 0, 1) ∧ decode cX12_init 276 = .ok (.bipush 100, 2) ∧ decode cX12_init 278 = .ok (.newarray .int, 2) ∧ decode cX12_init 280 = .ok (.putfield 109, 3) ∧ decode cX12_init 283 = .ok (.aload_n 0, 1) ∧ decode cX12_init 284 = .ok (.ldc 112, 2) ∧ decode cX12_init 286 = .ok (.newarray .byte, 2) ∧ decode cX12_init 288 = .ok (.putfield 113, 3) ∧ decode cX12_init 291 = .ok (.aload_n 0, 1) ∧ decode cX12_init 292 = .ok (.sipush 8400, 3) := by decide +kernel
theorem dX12_init_275 : decode cX12_init 275 = .ok (.aload_n 0, 1) := gd_X12_init_275.1
theorem dX12_init_276 : decode cX12_init 276 = .ok (.bipush 100, 2) := gd_X12_init_275.2.1
theorem dX12_init_278 : decode cX12_init 278 = .ok (.newarray .int, 2) := gd_X12_init_275.2.2.1
theorem dX12_init_280 : decode cX12_init 280 = .ok (.putfield 109, 3) := gd_X12_init_275.2.2.2.1
theorem dX12_init_283 : decode cX12_init 283 = .ok (.aload_n 0, 1) := gd_X12_init_275.2.2.2.2.1
theorem dX12_init_284 : decode cX12_init 284 = .ok (.ldc 112, 2) := gd_X12_init_275.2.2.2.2.2.1
theorem dX12_init_286 : decode cX12_init 286 = .ok (.newarray .byte, 2) := gd_X12_init_275.2.2.2.2.2.2.1
theorem dX12_init_288 : decode cX12_init 288 = .ok (.putfield 113, 3) := gd_X12_init_275.2.2.2.2.2.2.2.1
theorem dX12_init_291 : decode cX12_init 291 = .ok (.aload_n 0, 1) := gd_X12_init_275.2.2.2.2.2.2.2.2.1
theorem dX12_init_292 : decode cX12_init 292 = .ok (.sipush 8400, 3) := gd_X12_init_275.2.2.2.2.2.2.2.2.2
theorem gd_X12_init_295 : decode cX12_init 295 = .ok (.newarray .int, 2) ∧ decode cX12_init 297 = .ok (.putfield 116, 3) ∧ decode cX12_init 300 = .ok (.aload_n 0, 1) ∧ decode cX12_init 301 = .ok (.sipush 700, 3) ∧ decode cX12_init 304 = .ok (.newarray .int, 2) ∧ decode cX12_init 306 = .ok (.putfield 119, 3) ∧ decode cX12_init 309 = .ok (.aload_n 0, 1) ∧ decode cX12_init 310 = .ok (.bipush 100, 2) ∧ decode cX12_init 312 = .ok (.newarray .int, 2) ∧ decode cX12_init 314 = .ok (.putfield 122, 3) := by decide +kernel
theorem dX12_init_295 : decode cX12_init 295 = .ok (.newarray .int, 2) := gd_X12_init_295.1
theorem dX12_init_297 : decode cX12_init 297 = .ok (.putfield 116, 3) := gd_X12_init_295.2.1
theorem dX12_init_300 : decode cX12_init 300 = .ok (.aload_n 0, 1) := gd_X12_init_295.2.2.1
theorem dX12_init_301 : decode cX12_init 301 = .ok (.sipush 700, 3) := gd_X12_init_295.2.2.2.1
theorem dX12_init_304 : decode cX12_init 304 = .ok (.newarray .int, 2) := gd_X12_init_295.2.2.2.2.1
theorem dX12_init_306 : decode cX12_init 306 = .ok (.putfield 119, 3) := gd_X12_init_295.2.2.2.2.2.1
theorem dX12_init_309 : decode cX12_init 309 = .ok (.aload_n 0, 1) := gd_X12_init_295.2.2.2.2.2.2.1
theorem dX12_init_310 : decode cX12_init 310 = .ok (.bipush 100, 2) := gd_X12_init_295.2.2.2.2.2.2.2.1
theorem dX12_init_312 : decode cX12_init 312 = .ok (.newarray .int, 2) := gd_X12_init_295.2.2.2.2.2.2.2.2.1
theorem dX12_init_314 : decode cX12_init 314 = .ok (.putfield 122, 3) := gd_X12_init_295.2.2.2.2.2.2.2.2.2
theorem gd_X12_init_317 : decode cX12_init 317 = .ok (.aload_n 0, 1) ∧ decode cX12_init 318 = .ok (.bipush 24, 2) ∧ decode cX12_init 320 = .ok (.newarray .byte, 2) ∧ decode cX12_init 322 = .ok (.putfield 125, 3) ∧ decode cX12_init 325 = .ok (.aload_n 0, 1) ∧ decode cX12_init 326 = .ok (.sipush 200, 3) ∧ decode cX12_init 329 = .ok (.newarray .int, 2) ∧ decode cX12_init 331 = .ok (.putfield 128, 3) ∧ decode cX12_init 334 = .ok (.aload_n 0, 1) ∧ decode cX12_init 335 = .ok (.sipush 2500, 3) := by decide +kernel
theorem dX12_init_317 : decode cX12_init 317 = .ok (.aload_n 0, 1) := gd_X12_init_317.1
theorem dX12_init_318 : decode cX12_init 318 = .ok (.bipush 24, 2) := gd_X12_init_317.2.1
theorem dX12_init_320 : decode cX12_init 320 = .ok (.newarray .byte, 2) := gd_X12_init_317.2.2.1
theorem dX12_init_322 : decode cX12_init 322 = .ok (.putfield 125, 3) := gd_X12_init_317.2.2.2.1
theorem dX12_init_325 : decode cX12_init 325 = .ok (.aload_n 0, 1) := gd_X12_init_317.2.2.2.2.1
theorem dX12_init_326 : decode cX12_init 326 = .ok (.sipush 200, 3) := gd_X12_init_317.2.2.2.2.2.1
theorem dX12_init_329 : decode cX12_init 329 = .ok (.newarray .int, 2) := gd_X12_init_317.2.2.2.2.2.2.1
theorem dX12_init_331 : decode cX12_init 331 = .ok (.putfield 128, 3) := gd_X12_init_317.2.2.2.2.2.2.2.1
theorem dX12_init_334 : decode cX12_init 334 = .ok (.aload_n 0, 1) := gd_X12_init_317.2.2.2.2.2.2.2.2.1
theorem dX12_init_335 : decode cX12_init 335 = .ok (.sipush 2500, 3) := gd_X12_init_317.2.2.2.2.2.2.2.2.2
theorem gd_X12_init_338 : decode cX12_init 338 = .ok (.newarray .byte, 2) ∧ decode cX12_init 340 = .ok (.putfield 131, 3) ∧ decode cX12_init 343 = .ok (.aload_n 0, 1) ∧ decode cX12_init 344 = .ok (.sipush 2500, 3) ∧ decode cX12_init 347 = .ok (.newarray .byte, 2) ∧ decode cX12_init 349 = .ok (.putfield 134, 3) ∧ decode cX12_init 352 = .ok (.aload_n 0, 1) ∧ decode cX12_init 353 = .ok (.iconst 5, 1) ∧ decode cX12_init 354 = .ok (.newarray .int, 2) ∧ decode cX12_init 356 = .ok (.putfield 137, 3) := by decide +kernel
theorem dX12_init_338 : decode cX12_init 338 = .ok (.newarray .byte, 2) := gd_X12_init_338.1
theorem dX12_init_340 : decode cX12_init 340 = .ok (.putfield 131, 3) := gd_X12_init_338.2.1
theorem dX12_init_343 : decode cX12_init 343 = .ok (.aload_n 0, 1) := gd_X12_init_338.2.2.1
theorem dX12_init_344 : decode cX12_init 344 = .ok (.sipush 2500, 3) := gd_X12_init_338.2.2.2.1
theorem dX12_init_347 : decode cX12_init 347 = .ok (.newarray .byte, 2) := gd_X12_init_338.2.2.2.2.1
theorem dX12_init_349 : decode cX12_init 349 = .ok (.putfield 134, 3) := gd_X12_init_338.2.2.2.2.2.1
theorem dX12_init_352 : decode cX12_init 352 = .ok (.aload_n 0, 1) := gd_X12_init_338.2.2.2.2.2.2.1
theorem dX12_init_353 : decode cX12_init 353 = .ok (.iconst 5, 1) := gd_X12_init_338.2.2.2.2.2.2.2.1
theorem dX12_init_354 : decode cX12_init 354 = .ok (.newarray .int, 2) := gd_X12_init_338.2.2.2.2.2.2.2.2.1
theorem dX12_init_356 : decode cX12_init 356 = .ok (.putfield 137, 3) := gd_X12_init_338.2.2.2.2.2.2.2.2.2
theorem gd_X12_init_359 : decode cX12_init 359 = .ok (.aload_n 0, 1) ∧ decode cX12_init 360 = .ok (.iconst 5, 1) ∧ decode cX12_init 361 = .ok (.newarray .int, 2) ∧ decode cX12_init 363 = .ok (.putfield 140, 3) ∧ decode cX12_init 366 = .ok (.aload_n 0, 1) ∧ decode cX12_init 367 = .ok (.sipush 280, 3) ∧ decode cX12_init 370 = .ok (.newarray .int, 2) ∧ decode cX12_init 372 = .ok (.putfield 143, 3) ∧ decode cX12_init 375 = .ok (.aload_n 0, 1) ∧ decode cX12_init 376 = .ok (.sipush 287, 3) := by decide +kernel
theorem dX12_init_359 : decode cX12_init 359 = .ok (.aload_n 0, 1) := gd_X12_init_359.1
theorem dX12_init_360 : decode cX12_init 360 = .ok (.iconst 5, 1) := gd_X12_init_359.2.1
theorem dX12_init_361 : decode cX12_init 361 = .ok (.newarray .int, 2) := gd_X12_init_359.2.2.1
theorem dX12_init_363 : decode cX12_init 363 = .ok (.putfield 140, 3) := gd_X12_init_359.2.2.2.1
theorem dX12_init_366 : decode cX12_init 366 = .ok (.aload_n 0, 1) := gd_X12_init_359.2.2.2.2.1
theorem dX12_init_367 : decode cX12_init 367 = .ok (.sipush 280, 3) := gd_X12_init_359.2.2.2.2.2.1
theorem dX12_init_370 : decode cX12_init 370 = .ok (.newarray .int, 2) := gd_X12_init_359.2.2.2.2.2.2.1
theorem dX12_init_372 : decode cX12_init 372 = .ok (.putfield 143, 3) := gd_X12_init_359.2.2.2.2.2.2.2.1
theorem dX12_init_375 : decode cX12_init 375 = .ok (.aload_n 0, 1) := gd_X12_init_359.2.2.2.2.2.2.2.2.1
theorem dX12_init_376 : decode cX12_init 376 = .ok (.sipush 287, 3) := gd_X12_init_359.2.2.2.2.2.2.2.2.2
