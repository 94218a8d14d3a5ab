theorem dX9_init_0 : decode cX9_init 0 = .ok (.aload_n 0, 1) := by decide +kernel
theorem dX9_init_1 : decode cX9_init 1 = .ok (.invokespecial 1, 3) := by decide +kernel
theorem dX9_init_4 : decode cX9_init 4 = .ok (.aload_n 0, 1) := by decide +kernel
theorem dX9_init_5 : decode cX9_init 5 = .ok (.sipush 165, 3) := by decide +kernel
theorem dX9_init_8 : decode cX9_init 8 = .ok (.newarray .int, 2) := by decide +kernel
theorem dX9_init_10 : decode cX9_init 10 = .ok (.putfield 7, 3) := by decide +kernel
theorem dX9_init_13 : decode cX9_init 13 = .ok (.aload_n 0, 1) := by decide +kernel
theorem dX9_init_14 : decode cX9_init 14 = .ok (.sipush 165, 3) := by decide +kernel
theorem dX9_init_17 : decode cX9_init 17 = .ok (.newarray .int, 2) := by decide +kernel
theorem dX9_init_19 : decode cX9_init 19 = .ok (.putfield 13, 3) := by decide +kernel
theorem dX9_init_22 : decode cX9_init 22 = .ok (.aload_n 0, 1) := by decide +kernel
theorem dX9_init_23 : decode cX9_init 23 = .ok (.sipush 165, 3) := by decide +kernel
theorem dX9_init_26 : decode cX9_init 26 = .ok (.newarray .int, 2) := by decide +kernel
theorem dX9_init_28 : decode cX9_init 28 = .ok (.putfield 16, 3) := by decide +kernel
theorem dX9_init_31 : decode cX9_init 31 = .ok (.aload_n 0, 1) := by decide +kernel
theorem dX9_init_32 : decode cX9_init 32 = .ok (.sipush 1320, 3) := by decide +kernel
theorem dX9_init_35 : decode cX9_init 35 = .ok (.newarray .int, 2) := by decide +kernel
theorem dX9_init_37 : decode cX9_init 37 = .ok (.putfield 19, 3) := by decide +kernel
theorem dX9_init_40 : decode cX9_init 40 = .ok (.aload_n 0, 1) := by decide +kernel
theorem dX9_init_41 : decode cX9_init 41 = .ok (.sipush 165, 3) := by decide +kernel
theorem dX9_init_44 : decode cX9_init 44 = .ok (.newarray .int, 2) := by decide +kernel
theorem dX9_init_46 : decode cX9_init 46 = .ok (.putfield 22, 3) := by decide +kernel
theorem dX9_init_49 : decode cX9_init 49 = .ok (.aload_n 0, 1) := by decide +kernel
theorem dX9_init_50 : decode cX9_init 50 = .ok (.bipush 60, 2) := by decide +kernel
theorem dX9_init_52 : decode cX9_init 52 = .ok (.newarray .int, 2) := by decide +kernel
theorem dX9_init_54 : decode cX9_init 54 = .ok (.putfield 25, 3) := by decide +kernel
theorem dX9_init_57 : decode cX9_init 57 = .ok (.aload_n 0, 1) := by decide +kernel
theorem dX9_init_58 : decode cX9_init 58 = .ok (.sipush 300, 3) := by decide +kernel
theorem dX9_init_61 : decode cX9_init 61 = .ok (.newarray .int, 2) := by decide +kernel
theorem dX9_init_63 : decode cX9_init 63 = .ok (.putfield 28, 3) := by decide +kernel
theorem dX9_init_66 : decode cX9_init 66 = .ok (.aload_n 0, 1) := by decide +kernel
theorem dX9_init_67 : decode cX9_init 67 = .ok (.bipush 90, 2) := by decide +kernel
theorem dX9_init_69 : decode cX9_init 69 = .ok (.newarray .int, 2) := by decide +kernel
theorem dX9_init_71 : decode cX9_init 71 = .ok (.putfield 31, 3) := by decide +kernel
theorem dX9_init_74 : decode cX9_init 74 = .ok (.aload_n 0, 1) := by decide +kernel
theorem dX9_init_75 : decode cX9_init 75 = .ok (.iconst (-1), 1) := by decide +kernel
theorem dX9_init_76 : decode cX9_init 76 = .ok (.putfield 34, 3) := by decide +kernel
theorem dX9_init_79 : decode cX9_init 79 = .ok (.aload_n 0, 1) := by decide +kernel
theorem dX9_init_80 : decode cX9_init 80 = .ok (.iconst (-1), 1) := by decide +kernel
theorem dX9_init_81 : decode cX9_init 81 = .ok (.putfield 38, 3) := by decide +kernel
theorem dX9_init_84 : decode cX9_init 84 = .ok (.aload_n 0, 1) := by decide +kernel
theorem dX9_init_85 : decode cX9_init 85 = .ok (.getfield 7, 3) := by decide +kernel
theorem dX9_init_88 : decode cX9_init 88 = .ok (.iconst 3, 1) := by decide +kernel
theorem dX9_init_89 : decode cX9_init 89 = .ok (.bipush 40, 2) := by decide +kernel
theorem dX9_init_91 : decode cX9_init 91 = .ok (.iastore, 1) := by decide +kernel
theorem dX9_init_92 : decode cX9_init 92 = .ok (.return_, 1) := by decide +kernel
theorem dX9_thrown_0 : decode cX9_thrown 0 = .ok (.aload_n 0, 1) := by decide +kernel
theorem dX9_thrown_1 : decode cX9_thrown 1 = .ok (.getfield 41, 3) := by decide +kernel
theorem dX9_thrown_4 : decode cX9_thrown 4 = .ok (.ireturn, 1) := by decide +kernel
theorem dX9_fails_0 : decode cX9_fails 0 = .ok (.aload_n 0, 1) := by decide +kernel
theorem dX9_fails_1 : decode cX9_fails 1 = .ok (.iload_n 1, 1) := by decide +kernel
theorem dX9_fails_2 : decode cX9_fails 2 = .ok (.putfield 41, 3) := by decide +kernel
theorem dX9_fails_5 : decode cX9_fails 5 = .ok (.iconst 0, 1) := by decide +kernel
theorem dX9_fails_6 : decode cX9_fails 6 = .ok (.ireturn, 1) := by decide +kernel
theorem dX9_in_0 : decode cX9_in 0 = .ok (.iload_n 0, 1) := by decide +kernel
theorem dX9_in_1 : decode cX9_in 1 = .ok (.iload_n 1, 1) := by decide +kernel
theorem dX9_in_2 : decode cX9_in 2 = .ok (.if_icmp .lt 12, 3) := by decide +kernel
theorem dX9_in_5 : decode cX9_in 5 = .ok (.iload_n 0, 1) := by decide +kernel
theorem dX9_in_6 : decode cX9_in 6 = .ok (.iload_n 2, 1) := by decide +kernel
theorem dX9_in_7 : decode cX9_in 7 = .ok (.if_icmp .gt 7, 3) := by decide +kernel
theorem dX9_in_10 : decode cX9_in 10 = .ok (.iconst 1, 1) := by decide +kernel
theorem dX9_in_11 : decode cX9_in 11 = .ok (.goto 4, 3) := by decide +kernel
theorem dX9_in_14 : decode cX9_in 14 = .ok (.iconst 0, 1) := by decide +kernel
theorem dX9_in_15 : decode cX9_in 15 = .ok (.ireturn, 1) := by decide +kernel
theorem dX9_remembers_0 : decode cX9_remembers 0 = .ok (.aload_n 0, 1) := by decide +kernel
theorem dX9_remembers_1 : decode cX9_remembers 1 = .ok (.iconst 0, 1) := by decide +kernel
theorem dX9_remembers_2 : decode cX9_remembers 2 = .ok (.putfield 41, 3) := by decide +kernel
theorem dX9_remembers_5 : decode cX9_remembers 5 = .ok (.iconst 0, 1) := by decide +kernel
theorem dX9_remembers_6 : decode cX9_remembers 6 = .ok (.istore_n 1, 1) := by decide +kernel
theorem dX9_remembers_7 : decode cX9_remembers 7 = .ok (.iload_n 1, 1) := by decide +kernel
theorem dX9_remembers_8 : decode cX9_remembers 8 = .ok (.sipush 165, 3) := by decide +kernel
theorem dX9_remembers_11 : decode cX9_remembers 11 = .ok (.if_icmp .ge 21, 3) := by decide +kernel
theorem dX9_remembers_14 : decode cX9_remembers 14 = .ok (.aload_n 0, 1) := by decide +kernel
theorem dX9_remembers_15 : decode cX9_remembers 15 = .ok (.getfield 13, 3) := by decide +kernel
theorem dX9_remembers_18 : decode cX9_remembers 18 = .ok (.iload_n 1, 1) := by decide +kernel
theorem dX9_remembers_19 : decode cX9_remembers 19 = .ok (.aload_n 0, 1) := by decide +kernel
theorem dX9_remembers_20 : decode cX9_remembers 20 = .ok (.getfield 7, 3) := by decide +kernel
theorem dX9_remembers_23 : decode cX9_remembers 23 = .ok (.iload_n 1, 1) := by decide +kernel
theorem dX9_remembers_24 : decode cX9_remembers 24 = .ok (.iaload, 1) := by decide +kernel
theorem dX9_remembers_25 : decode cX9_remembers 25 = .ok (.iastore, 1) := by decide +kernel
theorem dX9_remembers_26 : decode cX9_remembers 26 = .ok (.iinc 1 1, 3) := by decide +kernel
theorem dX9_remembers_29 : decode cX9_remembers 29 = .ok (.goto (-22), 3) := by decide +kernel
theorem dX9_remembers_32 : decode cX9_remembers 32 = .ok (.return_, 1) := by decide +kernel
theorem dX9_changed_0 : decode cX9_changed 0 = .ok (.aload_n 0, 1) := by decide +kernel
theorem dX9_changed_1 : decode cX9_changed 1 = .ok (.getfield 44, 3) := by decide +kernel
theorem dX9_changed_4 : decode cX9_changed 4 = .ok (.bipush 8, 2) := by decide +kernel
theorem dX9_changed_6 : decode cX9_changed 6 = .ok (.if_icmp .ne 37, 3) := by decide +kernel
theorem dX9_changed_9 : decode cX9_changed 9 = .ok (.iconst 0, 1) := by decide +kernel
theorem dX9_changed_10 : decode cX9_changed 10 = .ok (.istore_n 2, 1) := by decide +kernel
theorem dX9_changed_11 : decode cX9_changed 11 = .ok (.iload_n 2, 1) := by decide +kernel
theorem dX9_changed_12 : decode cX9_changed 12 = .ok (.sipush 1155, 3) := by decide +kernel
theorem dX9_changed_15 : decode cX9_changed 15 = .ok (.if_icmp .ge 25, 3) := by decide +kernel
theorem dX9_changed_18 : decode cX9_changed 18 = .ok (.aload_n 0, 1) := by decide +kernel
theorem dX9_changed_19 : decode cX9_changed 19 = .ok (.getfield 19, 3) := by decide +kernel
theorem dX9_changed_22 : decode cX9_changed 22 = .ok (.iload_n 2, 1) := by decide +kernel
theorem dX9_changed_23 : decode cX9_changed 23 = .ok (.aload_n 0, 1) := by decide +kernel
theorem dX9_changed_24 : decode cX9_changed 24 = .ok (.getfield 19, 3) := by decide +kernel
theorem dX9_changed_27 : decode cX9_changed 27 = .ok (.iload_n 2, 1) := by decide +kernel
theorem dX9_changed_28 : decode cX9_changed 28 = .ok (.sipush 165, 3) := by decide +kernel
theorem dX9_changed_31 : decode cX9_changed 31 = .ok (.iadd, 1) := by decide +kernel
theorem dX9_changed_32 : decode cX9_changed 32 = .ok (.iaload, 1) := by decide +kernel
theorem dX9_changed_33 : decode cX9_changed 33 = .ok (.iastore, 1) := by decide +kernel
theorem dX9_changed_34 : decode cX9_changed 34 = .ok (.iinc 2 1, 3) := by decide +kernel
theorem dX9_changed_37 : decode cX9_changed 37 = .ok (.goto (-26), 3) := by decide +kernel
theorem dX9_changed_40 : decode cX9_changed 40 = .ok (.goto 13, 3) := by decide +kernel
theorem dX9_changed_43 : decode cX9_changed 43 = .ok (.aload_n 0, 1) := by decide +kernel
theorem dX9_changed_44 : decode cX9_changed 44 = .ok (.dup, 1) := by decide +kernel
theorem dX9_changed_45 : decode cX9_changed 45 = .ok (.getfield 44, 3) := by decide +kernel
theorem dX9_changed_48 : decode cX9_changed 48 = .ok (.iconst 1, 1) := by decide +kernel
theorem dX9_changed_49 : decode cX9_changed 49 = .ok (.iadd, 1) := by decide +kernel
theorem dX9_changed_50 : decode cX9_changed 50 = .ok (.putfield 44, 3) := by decide +kernel
theorem dX9_changed_53 : decode cX9_changed 53 = .ok (.iconst 0, 1) := by decide +kernel
theorem dX9_changed_54 : decode cX9_changed 54 = .ok (.istore_n 2, 1) := by decide +kernel
theorem dX9_changed_55 : decode cX9_changed 55 = .ok (.iload_n 2, 1) := by decide +kernel
theorem dX9_changed_56 : decode cX9_changed 56 = .ok (.sipush 165, 3) := by decide +kernel
theorem dX9_changed_59 : decode cX9_changed 59 = .ok (.if_icmp .ge 32, 3) := by decide +kernel
theorem dX9_changed_62 : decode cX9_changed 62 = .ok (.aload_n 0, 1) := by decide +kernel
theorem dX9_changed_63 : decode cX9_changed 63 = .ok (.getfield 19, 3) := by decide +kernel
theorem dX9_changed_66 : decode cX9_changed 66 = .ok (.sipush 165, 3) := by decide +kernel
theorem dX9_changed_69 : decode cX9_changed 69 = .ok (.aload_n 0, 1) := by decide +kernel
theorem dX9_changed_70 : decode cX9_changed 70 = .ok (.getfield 44, 3) := by decide +kernel
theorem dX9_changed_73 : decode cX9_changed 73 = .ok (.iconst 1, 1) := by decide +kernel
theorem dX9_changed_74 : decode cX9_changed 74 = .ok (.isub, 1) := by decide +kernel
theorem dX9_changed_75 : decode cX9_changed 75 = .ok (.imul, 1) := by decide +kernel
theorem dX9_changed_76 : decode cX9_changed 76 = .ok (.iload_n 2, 1) := by decide +kernel
theorem dX9_changed_77 : decode cX9_changed 77 = .ok (.iadd, 1) := by decide +kernel
theorem dX9_changed_78 : decode cX9_changed 78 = .ok (.aload_n 0, 1) := by decide +kernel
theorem dX9_changed_79 : decode cX9_changed 79 = .ok (.getfield 13, 3) := by decide +kernel
theorem dX9_changed_82 : decode cX9_changed 82 = .ok (.iload_n 2, 1) := by decide +kernel
theorem dX9_changed_83 : decode cX9_changed 83 = .ok (.iaload, 1) := by decide +kernel
theorem dX9_changed_84 : decode cX9_changed 84 = .ok (.iastore, 1) := by decide +kernel
theorem dX9_changed_85 : decode cX9_changed 85 = .ok (.iinc 2 1, 3) := by decide +kernel
theorem dX9_changed_88 : decode cX9_changed 88 = .ok (.goto (-33), 3) := by decide +kernel
theorem dX9_changed_91 : decode cX9_changed 91 = .ok (.iload_n 1, 1) := by decide +kernel
theorem dX9_changed_92 : decode cX9_changed 92 = .ok (.ireturn, 1) := by decide +kernel
theorem dX9_done_0 : decode cX9_done 0 = .ok (.aload_n 0, 1) := by decide +kernel
theorem dX9_done_1 : decode cX9_done 1 = .ok (.iload_n 1, 1) := by decide +kernel
theorem dX9_done_2 : decode cX9_done 2 = .ok (.putfield 47, 3) := by decide +kernel
theorem dX9_done_5 : decode cX9_done 5 = .ok (.iconst 0, 1) := by decide +kernel
theorem dX9_done_6 : decode cX9_done 6 = .ok (.ireturn, 1) := by decide +kernel
theorem dX9_ends_0 : decode cX9_ends 0 = .ok (.iload_n 1, 1) := by decide +kernel
theorem dX9_ends_1 : decode cX9_ends 1 = .ok (.ifCond .ne 14, 3) := by decide +kernel
theorem dX9_ends_4 : decode cX9_ends 4 = .ok (.aload_n 0, 1) := by decide +kernel
theorem dX9_ends_5 : decode cX9_ends 5 = .ok (.aload_n 0, 1) := by decide +kernel
theorem dX9_ends_6 : decode cX9_ends 6 = .ok (.getfield 47, 3) := by decide +kernel
theorem dX9_ends_9 : decode cX9_ends 9 = .ok (.invokevirtual 50, 3) := by decide +kernel
theorem dX9_ends_12 : decode cX9_ends 12 = .ok (.goto 8, 3) := by decide +kernel
theorem dX9_ends_15 : decode cX9_ends 15 = .ok (.aload_n 0, 1) := by decide +kernel
theorem dX9_ends_16 : decode cX9_ends 16 = .ok (.iload_n 1, 1) := by decide +kernel
theorem dX9_ends_17 : decode cX9_ends 17 = .ok (.invokevirtual 54, 3) := by decide +kernel
theorem dX9_ends_20 : decode cX9_ends 20 = .ok (.ireturn, 1) := by decide +kernel
theorem dX9_isJet_0 : decode cX9_isJet 0 = .ok (.iload_n 1, 1) := by decide +kernel
theorem dX9_isJet_1 : decode cX9_isJet 1 = .ok (.iconst 0, 1) := by decide +kernel
theorem dX9_isJet_2 : decode cX9_isJet 2 = .ok (.aload_n 0, 1) := by decide +kernel
theorem dX9_isJet_3 : decode cX9_isJet 3 = .ok (.getfield 7, 3) := by decide +kernel
theorem dX9_isJet_6 : decode cX9_isJet 6 = .ok (.iconst 0, 1) := by decide +kernel
theorem dX9_isJet_7 : decode cX9_isJet 7 = .ok (.iaload, 1) := by decide +kernel
theorem dX9_isJet_8 : decode cX9_isJet 8 = .ok (.iconst 1, 1) := by decide +kernel
theorem dX9_isJet_9 : decode cX9_isJet 9 = .ok (.isub, 1) := by decide +kernel
theorem dX9_isJet_10 : decode cX9_isJet 10 = .ok (.invokestatic 57, 3) := by decide +kernel
theorem dX9_isJet_13 : decode cX9_isJet 13 = .ok (.ireturn, 1) := by decide +kernel
theorem dX9_isFigure_0 : decode cX9_isFigure 0 = .ok (.iload_n 1, 1) := by decide +kernel
theorem dX9_isFigure_1 : decode cX9_isFigure 1 = .ok (.iconst 0, 1) := by decide +kernel
theorem dX9_isFigure_2 : decode cX9_isFigure 2 = .ok (.aload_n 0, 1) := by decide +kernel
theorem dX9_isFigure_3 : decode cX9_isFigure 3 = .ok (.getfield 7, 3) := by decide +kernel
theorem dX9_isFigure_6 : decode cX9_isFigure 6 = .ok (.iconst 1, 1) := by decide +kernel
theorem dX9_isFigure_7 : decode cX9_isFigure 7 = .ok (.iaload, 1) := by decide +kernel
theorem dX9_isFigure_8 : decode cX9_isFigure 8 = .ok (.iconst 1, 1) := by decide +kernel
theorem dX9_isFigure_9 : decode cX9_isFigure 9 = .ok (.isub, 1) := by decide +kernel
theorem dX9_isFigure_10 : decode cX9_isFigure 10 = .ok (.invokestatic 57, 3) := by decide +kernel
theorem dX9_isFigure_13 : decode cX9_isFigure 13 = .ok (.ireturn, 1) := by decide +kernel
theorem dX9_isEntry_0 : decode cX9_isEntry 0 = .ok (.iload_n 1, 1) := by decide +kernel
theorem dX9_isEntry_1 : decode cX9_isEntry 1 = .ok (.iconst 0, 1) := by decide +kernel
theorem dX9_isEntry_2 : decode cX9_isEntry 2 = .ok (.aload_n 0, 1) := by decide +kernel
theorem dX9_isEntry_3 : decode cX9_isEntry 3 = .ok (.getfield 7, 3) := by decide +kernel
theorem dX9_isEntry_6 : decode cX9_isEntry 6 = .ok (.iconst 2, 1) := by decide +kernel
theorem dX9_isEntry_7 : decode cX9_isEntry 7 = .ok (.iaload, 1) := by decide +kernel
theorem dX9_isEntry_8 : decode cX9_isEntry 8 = .ok (.iconst 1, 1) := by decide +kernel
theorem dX9_isEntry_9 : decode cX9_isEntry 9 = .ok (.isub, 1) := by decide +kernel
theorem dX9_isEntry_10 : decode cX9_isEntry 10 = .ok (.invokestatic 57, 3) := by decide +kernel
theorem dX9_isEntry_13 : decode cX9_isEntry 13 = .ok (.ireturn, 1) := by decide +kernel
theorem dX9_place_0 : decode cX9_place 0 = .ok (.aload_n 0, 1) := by decide +kernel
theorem dX9_place_1 : decode cX9_place 1 = .ok (.getfield 7, 3) := by decide +kernel
theorem dX9_place_4 : decode cX9_place 4 = .ok (.bipush 8, 2) := by decide +kernel
theorem dX9_place_6 : decode cX9_place 6 = .ok (.iconst 2, 1) := by decide +kernel
theorem dX9_place_7 : decode cX9_place 7 = .ok (.iload_n 1, 1) := by decide +kernel
theorem dX9_place_8 : decode cX9_place 8 = .ok (.imul, 1) := by decide +kernel
theorem dX9_place_9 : decode cX9_place 9 = .ok (.iadd, 1) := by decide +kernel
theorem dX9_place_10 : decode cX9_place 10 = .ok (.iaload, 1) := by decide +kernel
theorem dX9_place_11 : decode cX9_place 11 = .ok (.ireturn, 1) := by decide +kernel
theorem dX9_valve_0 : decode cX9_valve 0 = .ok (.aload_n 0, 1) := by decide +kernel
theorem dX9_valve_1 : decode cX9_valve 1 = .ok (.getfield 7, 3) := by decide +kernel
theorem dX9_valve_4 : decode cX9_valve 4 = .ok (.bipush 8, 2) := by decide +kernel
theorem dX9_valve_6 : decode cX9_valve 6 = .ok (.iconst 2, 1) := by decide +kernel
theorem dX9_valve_7 : decode cX9_valve 7 = .ok (.iload_n 1, 1) := by decide +kernel
theorem dX9_valve_8 : decode cX9_valve 8 = .ok (.imul, 1) := by decide +kernel
theorem dX9_valve_9 : decode cX9_valve 9 = .ok (.iadd, 1) := by decide +kernel
theorem dX9_valve_10 : decode cX9_valve 10 = .ok (.iconst 1, 1) := by decide +kernel
theorem dX9_valve_11 : decode cX9_valve 11 = .ok (.iadd, 1) := by decide +kernel
theorem dX9_valve_12 : decode cX9_valve 12 = .ok (.iaload, 1) := by decide +kernel
theorem dX9_valve_13 : decode cX9_valve 13 = .ok (.ireturn, 1) := by decide +kernel
theorem dX9_steps_0 : decode cX9_steps 0 = .ok (.aload_n 0, 1) := by decide +kernel
theorem dX9_steps_1 : decode cX9_steps 1 = .ok (.getfield 7, 3) := by decide +kernel
theorem dX9_steps_4 : decode cX9_steps 4 = .ok (.bipush 28, 2) := by decide +kernel
theorem dX9_steps_6 : decode cX9_steps 6 = .ok (.bipush 25, 2) := by decide +kernel
theorem dX9_steps_8 : decode cX9_steps 8 = .ok (.iload_n 1, 1) := by decide +kernel
theorem dX9_steps_9 : decode cX9_steps 9 = .ok (.imul, 1) := by decide +kernel
theorem dX9_steps_10 : decode cX9_steps 10 = .ok (.iadd, 1) := by decide +kernel
theorem dX9_steps_11 : decode cX9_steps 11 = .ok (.iaload, 1) := by decide +kernel
theorem dX9_steps_12 : decode cX9_steps 12 = .ok (.ireturn, 1) := by decide +kernel
theorem dX9_at_0 : decode cX9_at 0 = .ok (.aload_n 0, 1) := by decide +kernel
theorem dX9_at_1 : decode cX9_at 1 = .ok (.getfield 7, 3) := by decide +kernel
theorem dX9_at_4 : decode cX9_at 4 = .ok (.bipush 28, 2) := by decide +kernel
theorem dX9_at_6 : decode cX9_at 6 = .ok (.bipush 25, 2) := by decide +kernel
theorem dX9_at_8 : decode cX9_at 8 = .ok (.iload_n 1, 1) := by decide +kernel
theorem dX9_at_9 : decode cX9_at 9 = .ok (.imul, 1) := by decide +kernel
theorem dX9_at_10 : decode cX9_at 10 = .ok (.iadd, 1) := by decide +kernel
theorem dX9_at_11 : decode cX9_at 11 = .ok (.iconst 1, 1) := by decide +kernel
theorem dX9_at_12 : decode cX9_at 12 = .ok (.iadd, 1) := by decide +kernel
theorem dX9_at_13 : decode cX9_at 13 = .ok (.iconst 3, 1) := by decide +kernel
theorem dX9_at_14 : decode cX9_at 14 = .ok (.iload_n 2, 1) := by decide +kernel
theorem dX9_at_15 : decode cX9_at 15 = .ok (.imul, 1) := by decide +kernel
theorem dX9_at_16 : decode cX9_at 16 = .ok (.iadd, 1) := by decide +kernel
theorem dX9_at_17 : decode cX9_at 17 = .ok (.iload_n 3, 1) := by decide +kernel
theorem dX9_at_18 : decode cX9_at 18 = .ok (.iadd, 1) := by decide +kernel
theorem dX9_at_19 : decode cX9_at 19 = .ok (.iaload, 1) := by decide +kernel
theorem dX9_at_20 : decode cX9_at 20 = .ok (.ireturn, 1) := by decide +kernel
theorem dX9_asked_0 : decode cX9_asked 0 = .ok (.iconst 0, 1) := by decide +kernel
theorem dX9_asked_1 : decode cX9_asked 1 = .ok (.istore_n 1, 1) := by decide +kernel
theorem dX9_asked_2 : decode cX9_asked 2 = .ok (.iconst 0, 1) := by decide +kernel
theorem dX9_asked_3 : decode cX9_asked 3 = .ok (.istore_n 2, 1) := by decide +kernel
theorem dX9_asked_4 : decode cX9_asked 4 = .ok (.iload_n 2, 1) := by decide +kernel
theorem dX9_asked_5 : decode cX9_asked 5 = .ok (.aload_n 0, 1) := by decide +kernel
theorem dX9_asked_6 : decode cX9_asked 6 = .ok (.getfield 7, 3) := by decide +kernel
theorem dX9_asked_9 : decode cX9_asked 9 = .ok (.iconst 0, 1) := by decide +kernel
theorem dX9_asked_10 : decode cX9_asked 10 = .ok (.iaload, 1) := by decide +kernel
theorem dX9_asked_11 : decode cX9_asked 11 = .ok (.if_icmp .ge 17, 3) := by decide +kernel
theorem dX9_asked_14 : decode cX9_asked 14 = .ok (.iload_n 1, 1) := by decide +kernel
theorem dX9_asked_15 : decode cX9_asked 15 = .ok (.aload_n 0, 1) := by decide +kernel
theorem dX9_asked_16 : decode cX9_asked 16 = .ok (.iload_n 2, 1) := by decide +kernel
theorem dX9_asked_17 : decode cX9_asked 17 = .ok (.invokevirtual 61, 3) := by decide +kernel
theorem dX9_asked_20 : decode cX9_asked 20 = .ok (.iadd, 1) := by decide +kernel
theorem dX9_asked_21 : decode cX9_asked 21 = .ok (.istore_n 1, 1) := by decide +kernel
theorem dX9_asked_22 : decode cX9_asked 22 = .ok (.iinc 2 1, 3) := by decide +kernel
theorem dX9_asked_25 : decode cX9_asked 25 = .ok (.goto (-21), 3) := by decide +kernel
theorem dX9_asked_28 : decode cX9_asked 28 = .ok (.iload_n 1, 1) := by decide +kernel
theorem dX9_asked_29 : decode cX9_asked 29 = .ok (.ireturn, 1) := by decide +kernel
theorem dX9_given_0 : decode cX9_given 0 = .ok (.aload_n 0, 1) := by decide +kernel
theorem dX9_given_1 : decode cX9_given 1 = .ok (.invokevirtual 64, 3) := by decide +kernel
theorem dX9_given_4 : decode cX9_given 4 = .ok (.aload_n 0, 1) := by decide +kernel
theorem dX9_given_5 : decode cX9_given 5 = .ok (.getfield 7, 3) := by decide +kernel
theorem dX9_given_8 : decode cX9_given 8 = .ok (.iconst 3, 1) := by decide +kernel
theorem dX9_given_9 : decode cX9_given 9 = .ok (.iaload, 1) := by decide +kernel
theorem dX9_given_10 : decode cX9_given 10 = .ok (.if_icmp .ge 10, 3) := by decide +kernel
theorem dX9_given_13 : decode cX9_given 13 = .ok (.aload_n 0, 1) := by decide +kernel
theorem dX9_given_14 : decode cX9_given 14 = .ok (.invokevirtual 64, 3) := by decide +kernel
theorem dX9_given_17 : decode cX9_given 17 = .ok (.goto 9, 3) := by decide +kernel
theorem dX9_given_20 : decode cX9_given 20 = .ok (.aload_n 0, 1) := by decide +kernel
theorem dX9_given_21 : decode cX9_given 21 = .ok (.getfield 7, 3) := by decide +kernel
theorem dX9_given_24 : decode cX9_given 24 = .ok (.iconst 3, 1) := by decide +kernel
theorem dX9_given_25 : decode cX9_given 25 = .ok (.iaload, 1) := by decide +kernel
theorem dX9_given_26 : decode cX9_given 26 = .ok (.ireturn, 1) := by decide +kernel
theorem dX9_high_0 : decode cX9_high 0 = .ok (.aload_n 0, 1) := by decide +kernel
theorem dX9_high_1 : decode cX9_high 1 = .ok (.invokevirtual 64, 3) := by decide +kernel
theorem dX9_high_4 : decode cX9_high 4 = .ok (.aload_n 0, 1) := by decide +kernel
theorem dX9_high_5 : decode cX9_high 5 = .ok (.getfield 7, 3) := by decide +kernel
theorem dX9_high_8 : decode cX9_high 8 = .ok (.iconst 3, 1) := by decide +kernel
theorem dX9_high_9 : decode cX9_high 9 = .ok (.iaload, 1) := by decide +kernel
theorem dX9_high_10 : decode cX9_high 10 = .ok (.if_icmp .gt 14, 3) := by decide +kernel
theorem dX9_high_13 : decode cX9_high 13 = .ok (.bipush 10, 2) := by decide +kernel
theorem dX9_high_15 : decode cX9_high 15 = .ok (.aload_n 0, 1) := by decide +kernel
theorem dX9_high_16 : decode cX9_high 16 = .ok (.iload_n 1, 1) := by decide +kernel
theorem dX9_high_17 : decode cX9_high 17 = .ok (.invokevirtual 61, 3) := by decide +kernel
theorem dX9_high_20 : decode cX9_high 20 = .ok (.imul, 1) := by decide +kernel
theorem dX9_high_21 : decode cX9_high 21 = .ok (.goto 23, 3) := by decide +kernel
theorem dX9_high_24 : decode cX9_high 24 = .ok (.bipush 10, 2) := by decide +kernel
theorem dX9_high_26 : decode cX9_high 26 = .ok (.aload_n 0, 1) := by decide +kernel
theorem dX9_high_27 : decode cX9_high 27 = .ok (.iload_n 1, 1) := by decide +kernel
theorem dX9_high_28 : decode cX9_high 28 = .ok (.invokevirtual 61, 3) := by decide +kernel
theorem dX9_high_31 : decode cX9_high 31 = .ok (.imul, 1) := by decide +kernel
theorem dX9_high_32 : decode cX9_high 32 = .ok (.aload_n 0, 1) := by decide +kernel
theorem dX9_high_33 : decode cX9_high 33 = .ok (.getfield 7, 3) := by decide +kernel
theorem dX9_high_36 : decode cX9_high 36 = .ok (.iconst 3, 1) := by decide +kernel
theorem dX9_high_37 : decode cX9_high 37 = .ok (.iaload, 1) := by decide +kernel
theorem dX9_high_38 : decode cX9_high 38 = .ok (.imul, 1) := by decide +kernel
theorem dX9_high_39 : decode cX9_high 39 = .ok (.aload_n 0, 1) := by decide +kernel
theorem dX9_high_40 : decode cX9_high 40 = .ok (.invokevirtual 64, 3) := by decide +kernel
theorem dX9_high_43 : decode cX9_high 43 = .ok (.idiv, 1) := by decide +kernel
theorem dX9_high_44 : decode cX9_high 44 = .ok (.ireturn, 1) := by decide +kernel
theorem dX9_lands_0 : decode cX9_lands 0 = .ok (.aload_n 0, 1) := by decide +kernel
theorem dX9_lands_1 : decode cX9_lands 1 = .ok (.iload_n 1, 1) := by decide +kernel
theorem dX9_lands_2 : decode cX9_lands 2 = .ok (.invokevirtual 68, 3) := by decide +kernel
theorem dX9_lands_5 : decode cX9_lands 5 = .ok (.aload_n 0, 1) := by decide +kernel
theorem dX9_lands_6 : decode cX9_lands 6 = .ok (.iload_n 1, 1) := by decide +kernel
theorem dX9_lands_7 : decode cX9_lands 7 = .ok (.invokevirtual 71, 3) := by decide +kernel
theorem dX9_lands_10 : decode cX9_lands 10 = .ok (.aload_n 0, 1) := by decide +kernel
theorem dX9_lands_11 : decode cX9_lands 11 = .ok (.getfield 7, 3) := by decide +kernel
theorem dX9_lands_14 : decode cX9_lands 14 = .ok (.iconst 4, 1) := by decide +kernel
theorem dX9_lands_15 : decode cX9_lands 15 = .ok (.iaload, 1) := by decide +kernel
theorem dX9_lands_16 : decode cX9_lands 16 = .ok (.imul, 1) := by decide +kernel
theorem dX9_lands_17 : decode cX9_lands 17 = .ok (.bipush 20, 2) := by decide +kernel
theorem dX9_lands_19 : decode cX9_lands 19 = .ok (.idiv, 1) := by decide +kernel
theorem dX9_lands_20 : decode cX9_lands 20 = .ok (.iadd, 1) := by decide +kernel
theorem dX9_lands_21 : decode cX9_lands 21 = .ok (.ireturn, 1) := by decide +kernel
theorem dX9_wild_0 : decode cX9_wild 0 = .ok (.aload_n 0, 1) := by decide +kernel
theorem dX9_wild_1 : decode cX9_wild 1 = .ok (.iload_n 1, 1) := by decide +kernel
theorem dX9_wild_2 : decode cX9_wild 2 = .ok (.invokevirtual 74, 3) := by decide +kernel
theorem dX9_wild_5 : decode cX9_wild 5 = .ok (.iconst 0, 1) := by decide +kernel
theorem dX9_wild_6 : decode cX9_wild 6 = .ok (.bipush 99, 2) := by decide +kernel
theorem dX9_wild_8 : decode cX9_wild 8 = .ok (.invokestatic 57, 3) := by decide +kernel
theorem dX9_wild_11 : decode cX9_wild 11 = .ok (.ifCond .ne 7, 3) := by decide +kernel
theorem dX9_wild_14 : decode cX9_wild 14 = .ok (.iconst 1, 1) := by decide +kernel
theorem dX9_wild_15 : decode cX9_wild 15 = .ok (.goto 4, 3) := by decide +kernel
theorem dX9_wild_18 : decode cX9_wild 18 = .ok (.iconst 0, 1) := by decide +kernel
theorem dX9_wild_19 : decode cX9_wild 19 = .ok (.ireturn, 1) := by decide +kernel
theorem dX9_lasts_0 : decode cX9_lasts 0 = .ok (.iconst 0, 1) := by decide +kernel
theorem dX9_lasts_1 : decode cX9_lasts 1 = .ok (.istore_n 2, 1) := by decide +kernel
theorem dX9_lasts_2 : decode cX9_lasts 2 = .ok (.iconst 0, 1) := by decide +kernel
theorem dX9_lasts_3 : decode cX9_lasts 3 = .ok (.istore_n 3, 1) := by decide +kernel
theorem dX9_lasts_4 : decode cX9_lasts 4 = .ok (.iload_n 3, 1) := by decide +kernel
theorem dX9_lasts_5 : decode cX9_lasts 5 = .ok (.aload_n 0, 1) := by decide +kernel
theorem dX9_lasts_6 : decode cX9_lasts 6 = .ok (.iload_n 1, 1) := by decide +kernel
theorem dX9_lasts_7 : decode cX9_lasts 7 = .ok (.invokevirtual 77, 3) := by decide +kernel
theorem dX9_lasts_10 : decode cX9_lasts 10 = .ok (.if_icmp .ge 32, 3) := by decide +kernel
theorem dX9_lasts_13 : decode cX9_lasts 13 = .ok (.aload_n 0, 1) := by decide +kernel
theorem dX9_lasts_14 : decode cX9_lasts 14 = .ok (.iload_n 1, 1) := by decide +kernel
theorem dX9_lasts_15 : decode cX9_lasts 15 = .ok (.iload_n 3, 1) := by decide +kernel
theorem dX9_lasts_16 : decode cX9_lasts 16 = .ok (.iconst 0, 1) := by decide +kernel
theorem dX9_lasts_17 : decode cX9_lasts 17 = .ok (.invokevirtual 80, 3) := by decide +kernel
theorem dX9_lasts_20 : decode cX9_lasts 20 = .ok (.iload_n 2, 1) := by decide +kernel
theorem dX9_lasts_21 : decode cX9_lasts 21 = .ok (.if_icmp .le 13, 3) := by decide +kernel
theorem dX9_lasts_24 : decode cX9_lasts 24 = .ok (.aload_n 0, 1) := by decide +kernel
theorem dX9_lasts_25 : decode cX9_lasts 25 = .ok (.iload_n 1, 1) := by decide +kernel
theorem dX9_lasts_26 : decode cX9_lasts 26 = .ok (.iload_n 3, 1) := by decide +kernel
theorem dX9_lasts_27 : decode cX9_lasts 27 = .ok (.iconst 0, 1) := by decide +kernel
theorem dX9_lasts_28 : decode cX9_lasts 28 = .ok (.invokevirtual 80, 3) := by decide +kernel
theorem dX9_lasts_31 : decode cX9_lasts 31 = .ok (.goto 4, 3) := by decide +kernel
theorem dX9_lasts_34 : decode cX9_lasts 34 = .ok (.iload_n 2, 1) := by decide +kernel
theorem dX9_lasts_35 : decode cX9_lasts 35 = .ok (.istore_n 2, 1) := by decide +kernel
theorem dX9_lasts_36 : decode cX9_lasts 36 = .ok (.iinc 3 1, 3) := by decide +kernel
theorem dX9_lasts_39 : decode cX9_lasts 39 = .ok (.goto (-35), 3) := by decide +kernel
theorem dX9_lasts_42 : decode cX9_lasts 42 = .ok (.iload_n 2, 1) := by decide +kernel
theorem dX9_lasts_43 : decode cX9_lasts 43 = .ok (.ireturn, 1) := by decide +kernel
theorem dX9_due_0 : decode cX9_due 0 = .ok (.aload_n 0, 1) := by decide +kernel
theorem dX9_due_1 : decode cX9_due 1 = .ok (.getfield 7, 3) := by decide +kernel
theorem dX9_due_4 : decode cX9_due 4 = .ok (.sipush 153, 3) := by decide +kernel
theorem dX9_due_7 : decode cX9_due 7 = .ok (.iconst 2, 1) := by decide +kernel
theorem dX9_due_8 : decode cX9_due 8 = .ok (.iload_n 1, 1) := by decide +kernel
theorem dX9_due_9 : decode cX9_due 9 = .ok (.imul, 1) := by decide +kernel
theorem dX9_due_10 : decode cX9_due 10 = .ok (.iadd, 1) := by decide +kernel
theorem dX9_due_11 : decode cX9_due 11 = .ok (.iconst 1, 1) := by decide +kernel
theorem dX9_due_12 : decode cX9_due 12 = .ok (.iadd, 1) := by decide +kernel
theorem dX9_due_13 : decode cX9_due 13 = .ok (.iaload, 1) := by decide +kernel
theorem dX9_due_14 : decode cX9_due 14 = .ok (.aload_n 0, 1) := by decide +kernel
theorem dX9_due_15 : decode cX9_due 15 = .ok (.aload_n 0, 1) := by decide +kernel
theorem dX9_due_16 : decode cX9_due 16 = .ok (.getfield 7, 3) := by decide +kernel
theorem dX9_due_19 : decode cX9_due 19 = .ok (.sipush 153, 3) := by decide +kernel
theorem dX9_due_22 : decode cX9_due 22 = .ok (.iconst 2, 1) := by decide +kernel
theorem dX9_due_23 : decode cX9_due 23 = .ok (.iload_n 1, 1) := by decide +kernel
theorem dX9_due_24 : decode cX9_due 24 = .ok (.imul, 1) := by decide +kernel
theorem dX9_due_25 : decode cX9_due 25 = .ok (.iadd, 1) := by decide +kernel
theorem dX9_due_26 : decode cX9_due 26 = .ok (.iaload, 1) := by decide +kernel
theorem dX9_due_27 : decode cX9_due 27 = .ok (.invokevirtual 84, 3) := by decide +kernel
theorem dX9_due_30 : decode cX9_due 30 = .ok (.iadd, 1) := by decide +kernel
theorem dX9_due_31 : decode cX9_due 31 = .ok (.ireturn, 1) := by decide +kernel
theorem dX9_addsJet_0 : decode cX9_addsJet 0 = .ok (.iload_n 1, 1) := by decide +kernel
theorem dX9_addsJet_1 : decode cX9_addsJet 1 = .ok (.iconst 0, 1) := by decide +kernel
theorem dX9_addsJet_2 : decode cX9_addsJet 2 = .ok (.bipush 99, 2) := by decide +kernel
theorem dX9_addsJet_4 : decode cX9_addsJet 4 = .ok (.invokestatic 57, 3) := by decide +kernel
theorem dX9_addsJet_7 : decode cX9_addsJet 7 = .ok (.ifCond .ne 5, 3) := by decide +kernel
theorem dX9_addsJet_10 : decode cX9_addsJet 10 = .ok (.iconst 1, 1) := by decide +kernel
theorem dX9_addsJet_11 : decode cX9_addsJet 11 = .ok (.ireturn, 1) := by decide +kernel
theorem dX9_addsJet_12 : decode cX9_addsJet 12 = .ok (.iconst 0, 1) := by decide +kernel
theorem dX9_addsJet_13 : decode cX9_addsJet 13 = .ok (.istore_n 2, 1) := by decide +kernel
theorem dX9_addsJet_14 : decode cX9_addsJet 14 = .ok (.iload_n 2, 1) := by decide +kernel
theorem dX9_addsJet_15 : decode cX9_addsJet 15 = .ok (.aload_n 0, 1) := by decide +kernel
theorem dX9_addsJet_16 : decode cX9_addsJet 16 = .ok (.getfield 7, 3) := by decide +kernel
theorem dX9_addsJet_19 : decode cX9_addsJet 19 = .ok (.iconst 0, 1) := by decide +kernel
theorem dX9_addsJet_20 : decode cX9_addsJet 20 = .ok (.iaload, 1) := by decide +kernel
theorem dX9_addsJet_21 : decode cX9_addsJet 21 = .ok (.if_icmp .ge 20, 3) := by decide +kernel
theorem dX9_addsJet_24 : decode cX9_addsJet 24 = .ok (.aload_n 0, 1) := by decide +kernel
theorem dX9_addsJet_25 : decode cX9_addsJet 25 = .ok (.iload_n 2, 1) := by decide +kernel
theorem dX9_addsJet_26 : decode cX9_addsJet 26 = .ok (.invokevirtual 68, 3) := by decide +kernel
theorem dX9_addsJet_29 : decode cX9_addsJet 29 = .ok (.iload_n 1, 1) := by decide +kernel
theorem dX9_addsJet_30 : decode cX9_addsJet 30 = .ok (.if_icmp .ne 5, 3) := by decide +kernel
theorem dX9_addsJet_33 : decode cX9_addsJet 33 = .ok (.iconst 2, 1) := by decide +kernel
theorem dX9_addsJet_34 : decode cX9_addsJet 34 = .ok (.ireturn, 1) := by decide +kernel
theorem dX9_addsJet_35 : decode cX9_addsJet 35 = .ok (.iinc 2 1, 3) := by decide +kernel
theorem dX9_addsJet_38 : decode cX9_addsJet 38 = .ok (.goto (-24), 3) := by decide +kernel
theorem dX9_addsJet_41 : decode cX9_addsJet 41 = .ok (.aload_n 0, 1) := by decide +kernel
theorem dX9_addsJet_42 : decode cX9_addsJet 42 = .ok (.getfield 7, 3) := by decide +kernel
theorem dX9_addsJet_45 : decode cX9_addsJet 45 = .ok (.iconst 0, 1) := by decide +kernel
theorem dX9_addsJet_46 : decode cX9_addsJet 46 = .ok (.iaload, 1) := by decide +kernel
theorem dX9_addsJet_47 : decode cX9_addsJet 47 = .ok (.istore_n 2, 1) := by decide +kernel
theorem dX9_addsJet_48 : decode cX9_addsJet 48 = .ok (.iload_n 2, 1) := by decide +kernel
theorem dX9_addsJet_49 : decode cX9_addsJet 49 = .ok (.bipush 10, 2) := by decide +kernel
theorem dX9_addsJet_51 : decode cX9_addsJet 51 = .ok (.if_icmp .ne 5, 3) := by decide +kernel
theorem dX9_addsJet_54 : decode cX9_addsJet 54 = .ok (.iconst 3, 1) := by decide +kernel
theorem dX9_addsJet_55 : decode cX9_addsJet 55 = .ok (.ireturn, 1) := by decide +kernel
theorem dX9_addsJet_56 : decode cX9_addsJet 56 = .ok (.aload_n 0, 1) := by decide +kernel
theorem dX9_addsJet_57 : decode cX9_addsJet 57 = .ok (.getfield 7, 3) := by decide +kernel
theorem dX9_addsJet_60 : decode cX9_addsJet 60 = .ok (.bipush 8, 2) := by decide +kernel
theorem dX9_addsJet_62 : decode cX9_addsJet 62 = .ok (.iconst 2, 1) := by decide +kernel
theorem dX9_addsJet_63 : decode cX9_addsJet 63 = .ok (.iload_n 2, 1) := by decide +kernel
theorem dX9_addsJet_64 : decode cX9_addsJet 64 = .ok (.imul, 1) := by decide +kernel
theorem dX9_addsJet_65 : decode cX9_addsJet 65 = .ok (.iadd, 1) := by decide +kernel
theorem dX9_addsJet_66 : decode cX9_addsJet 66 = .ok (.iload_n 1, 1) := by decide +kernel
theorem dX9_addsJet_67 : decode cX9_addsJet 67 = .ok (.iastore, 1) := by decide +kernel
theorem dX9_addsJet_68 : decode cX9_addsJet 68 = .ok (.aload_n 0, 1) := by decide +kernel
theorem dX9_addsJet_69 : decode cX9_addsJet 69 = .ok (.getfield 7, 3) := by decide +kernel
theorem dX9_addsJet_72 : decode cX9_addsJet 72 = .ok (.bipush 8, 2) := by decide +kernel
theorem dX9_addsJet_74 : decode cX9_addsJet 74 = .ok (.iconst 2, 1) := by decide +kernel
theorem dX9_addsJet_75 : decode cX9_addsJet 75 = .ok (.iload_n 2, 1) := by decide +kernel
theorem dX9_addsJet_76 : decode cX9_addsJet 76 = .ok (.imul, 1) := by decide +kernel
theorem dX9_addsJet_77 : decode cX9_addsJet 77 = .ok (.iadd, 1) := by decide +kernel
theorem dX9_addsJet_78 : decode cX9_addsJet 78 = .ok (.iconst 1, 1) := by decide +kernel
theorem dX9_addsJet_79 : decode cX9_addsJet 79 = .ok (.iadd, 1) := by decide +kernel
theorem dX9_addsJet_80 : decode cX9_addsJet 80 = .ok (.iconst 0, 1) := by decide +kernel
theorem dX9_addsJet_81 : decode cX9_addsJet 81 = .ok (.iastore, 1) := by decide +kernel
theorem dX9_addsJet_82 : decode cX9_addsJet 82 = .ok (.aload_n 0, 1) := by decide +kernel
theorem dX9_addsJet_83 : decode cX9_addsJet 83 = .ok (.getfield 7, 3) := by decide +kernel
theorem dX9_addsJet_86 : decode cX9_addsJet 86 = .ok (.iconst 0, 1) := by decide +kernel
theorem dX9_addsJet_87 : decode cX9_addsJet 87 = .ok (.iload_n 2, 1) := by decide +kernel
theorem dX9_addsJet_88 : decode cX9_addsJet 88 = .ok (.iconst 1, 1) := by decide +kernel
theorem dX9_addsJet_89 : decode cX9_addsJet 89 = .ok (.iadd, 1) := by decide +kernel
theorem dX9_addsJet_90 : decode cX9_addsJet 90 = .ok (.iastore, 1) := by decide +kernel
theorem dX9_addsJet_91 : decode cX9_addsJet 91 = .ok (.aload_n 0, 1) := by decide +kernel
theorem dX9_addsJet_92 : decode cX9_addsJet 92 = .ok (.iload_n 2, 1) := by decide +kernel
theorem dX9_addsJet_93 : decode cX9_addsJet 93 = .ok (.invokevirtual 87, 3) := by decide +kernel
theorem dX9_addsJet_96 : decode cX9_addsJet 96 = .ok (.ireturn, 1) := by decide +kernel
theorem dX9_cuts_0 : decode cX9_cuts 0 = .ok (.bipush 28, 2) := by decide +kernel
theorem dX9_cuts_2 : decode cX9_cuts 2 = .ok (.bipush 25, 2) := by decide +kernel
theorem dX9_cuts_4 : decode cX9_cuts 4 = .ok (.iload_n 1, 1) := by decide +kernel
theorem dX9_cuts_5 : decode cX9_cuts 5 = .ok (.imul, 1) := by decide +kernel
theorem dX9_cuts_6 : decode cX9_cuts 6 = .ok (.iadd, 1) := by decide +kernel
theorem dX9_cuts_7 : decode cX9_cuts 7 = .ok (.iconst 1, 1) := by decide +kernel
theorem dX9_cuts_8 : decode cX9_cuts 8 = .ok (.iadd, 1) := by decide +kernel
theorem dX9_cuts_9 : decode cX9_cuts 9 = .ok (.istore_n 3, 1) := by decide +kernel
theorem dX9_cuts_10 : decode cX9_cuts 10 = .ok (.aload_n 0, 1) := by decide +kernel
theorem dX9_cuts_11 : decode cX9_cuts 11 = .ok (.iload_n 1, 1) := by decide +kernel
theorem dX9_cuts_12 : decode cX9_cuts 12 = .ok (.invokevirtual 77, 3) := by decide +kernel
theorem dX9_cuts_15 : decode cX9_cuts 15 = .ok (.iconst 1, 1) := by decide +kernel
theorem dX9_cuts_16 : decode cX9_cuts 16 = .ok (.isub, 1) := by decide +kernel
theorem dX9_cuts_17 : decode cX9_cuts 17 = .ok (.istore 4, 2) := by decide +kernel
theorem dX9_cuts_19 : decode cX9_cuts 19 = .ok (.iconst 3, 1) := by decide +kernel
theorem dX9_cuts_20 : decode cX9_cuts 20 = .ok (.iload_n 2, 1) := by decide +kernel
theorem dX9_cuts_21 : decode cX9_cuts 21 = .ok (.imul, 1) := by decide +kernel
theorem dX9_cuts_22 : decode cX9_cuts 22 = .ok (.istore 5, 2) := by decide +kernel
theorem dX9_cuts_24 : decode cX9_cuts 24 = .ok (.iload 5, 2) := by decide +kernel
theorem dX9_cuts_26 : decode cX9_cuts 26 = .ok (.iconst 3, 1) := by decide +kernel
theorem dX9_cuts_27 : decode cX9_cuts 27 = .ok (.iload 4, 2) := by decide +kernel
theorem dX9_cuts_29 : decode cX9_cuts 29 = .ok (.imul, 1) := by decide +kernel
theorem dX9_cuts_30 : decode cX9_cuts 30 = .ok (.if_icmp .ge 29, 3) := by decide +kernel
theorem dX9_cuts_33 : decode cX9_cuts 33 = .ok (.aload_n 0, 1) := by decide +kernel
theorem dX9_cuts_34 : decode cX9_cuts 34 = .ok (.getfield 7, 3) := by decide +kernel
theorem dX9_cuts_37 : decode cX9_cuts 37 = .ok (.iload_n 3, 1) := by decide +kernel
theorem dX9_cuts_38 : decode cX9_cuts 38 = .ok (.iload 5, 2) := by decide +kernel
theorem dX9_cuts_40 : decode cX9_cuts 40 = .ok (.iadd, 1) := by decide +kernel
theorem dX9_cuts_41 : decode cX9_cuts 41 = .ok (.aload_n 0, 1) := by decide +kernel
theorem dX9_cuts_42 : decode cX9_cuts 42 = .ok (.getfield 7, 3) := by decide +kernel
theorem dX9_cuts_45 : decode cX9_cuts 45 = .ok (.iload_n 3, 1) := by decide +kernel
theorem dX9_cuts_46 : decode cX9_cuts 46 = .ok (.iload 5, 2) := by decide +kernel
theorem dX9_cuts_48 : decode cX9_cuts 48 = .ok (.iadd, 1) := by decide +kernel
theorem dX9_cuts_49 : decode cX9_cuts 49 = .ok (.iconst 3, 1) := by decide +kernel
theorem dX9_cuts_50 : decode cX9_cuts 50 = .ok (.iadd, 1) := by decide +kernel
theorem dX9_cuts_51 : decode cX9_cuts 51 = .ok (.iaload, 1) := by decide +kernel
theorem dX9_cuts_52 : decode cX9_cuts 52 = .ok (.iastore, 1) := by decide +kernel
theorem dX9_cuts_53 : decode cX9_cuts 53 = .ok (.iinc 5 1, 3) := by decide +kernel
theorem dX9_cuts_56 : decode cX9_cuts 56 = .ok (.goto (-32), 3) := by decide +kernel
theorem dX9_cuts_59 : decode cX9_cuts 59 = .ok (.iconst 0, 1) := by decide +kernel
theorem dX9_cuts_60 : decode cX9_cuts 60 = .ok (.istore 5, 2) := by decide +kernel
theorem dX9_cuts_62 : decode cX9_cuts 62 = .ok (.iload 5, 2) := by decide +kernel
theorem dX9_cuts_64 : decode cX9_cuts 64 = .ok (.iconst 3, 1) := by decide +kernel
theorem dX9_cuts_65 : decode cX9_cuts 65 = .ok (.if_icmp .ge 24, 3) := by decide +kernel
theorem dX9_cuts_68 : decode cX9_cuts 68 = .ok (.aload_n 0, 1) := by decide +kernel
theorem dX9_cuts_69 : decode cX9_cuts 69 = .ok (.getfield 7, 3) := by decide +kernel
theorem dX9_cuts_72 : decode cX9_cuts 72 = .ok (.iload_n 3, 1) := by decide +kernel
theorem dX9_cuts_73 : decode cX9_cuts 73 = .ok (.iconst 3, 1) := by decide +kernel
theorem dX9_cuts_74 : decode cX9_cuts 74 = .ok (.iload 4, 2) := by decide +kernel
theorem dX9_cuts_76 : decode cX9_cuts 76 = .ok (.imul, 1) := by decide +kernel
theorem dX9_cuts_77 : decode cX9_cuts 77 = .ok (.iadd, 1) := by decide +kernel
theorem dX9_cuts_78 : decode cX9_cuts 78 = .ok (.iload 5, 2) := by decide +kernel
theorem dX9_cuts_80 : decode cX9_cuts 80 = .ok (.iadd, 1) := by decide +kernel
theorem dX9_cuts_81 : decode cX9_cuts 81 = .ok (.iconst 0, 1) := by decide +kernel
theorem dX9_cuts_82 : decode cX9_cuts 82 = .ok (.iastore, 1) := by decide +kernel
theorem dX9_cuts_83 : decode cX9_cuts 83 = .ok (.iinc 5 1, 3) := by decide +kernel
theorem dX9_cuts_86 : decode cX9_cuts 86 = .ok (.goto (-24), 3) := by decide +kernel
theorem dX9_cuts_89 : decode cX9_cuts 89 = .ok (.aload_n 0, 1) := by decide +kernel
theorem dX9_cuts_90 : decode cX9_cuts 90 = .ok (.getfield 7, 3) := by decide +kernel
theorem dX9_cuts_93 : decode cX9_cuts 93 = .ok (.bipush 28, 2) := by decide +kernel
theorem dX9_cuts_95 : decode cX9_cuts 95 = .ok (.bipush 25, 2) := by decide +kernel
theorem dX9_cuts_97 : decode cX9_cuts 97 = .ok (.iload_n 1, 1) := by decide +kernel
theorem dX9_cuts_98 : decode cX9_cuts 98 = .ok (.imul, 1) := by decide +kernel
theorem dX9_cuts_99 : decode cX9_cuts 99 = .ok (.iadd, 1) := by decide +kernel
theorem dX9_cuts_100 : decode cX9_cuts 100 = .ok (.iload 4, 2) := by decide +kernel
theorem dX9_cuts_102 : decode cX9_cuts 102 = .ok (.iastore, 1) := by decide +kernel
theorem dX9_cuts_103 : decode cX9_cuts 103 = .ok (.return_, 1) := by decide +kernel
theorem dX9_removesJet_0 : decode cX9_removesJet 0 = .ok (.aload_n 0, 1) := by decide +kernel
theorem dX9_removesJet_1 : decode cX9_removesJet 1 = .ok (.iload_n 1, 1) := by decide +kernel
theorem dX9_removesJet_2 : decode cX9_removesJet 2 = .ok (.invokevirtual 90, 3) := by decide +kernel
theorem dX9_removesJet_5 : decode cX9_removesJet 5 = .ok (.ifCond .ne 5, 3) := by decide +kernel
theorem dX9_removesJet_8 : decode cX9_removesJet 8 = .ok (.iconst 1, 1) := by decide +kernel
theorem dX9_removesJet_9 : decode cX9_removesJet 9 = .ok (.ireturn, 1) := by decide +kernel
theorem dX9_removesJet_10 : decode cX9_removesJet 10 = .ok (.iconst 0, 1) := by decide +kernel
theorem dX9_removesJet_11 : decode cX9_removesJet 11 = .ok (.istore_n 2, 1) := by decide +kernel
theorem dX9_removesJet_12 : decode cX9_removesJet 12 = .ok (.iconst 0, 1) := by decide +kernel
theorem dX9_removesJet_13 : decode cX9_removesJet 13 = .ok (.istore_n 3, 1) := by decide +kernel
theorem dX9_removesJet_14 : decode cX9_removesJet 14 = .ok (.iload_n 3, 1) := by decide +kernel
theorem dX9_removesJet_15 : decode cX9_removesJet 15 = .ok (.aload_n 0, 1) := by decide +kernel
theorem dX9_removesJet_16 : decode cX9_removesJet 16 = .ok (.getfield 7, 3) := by decide +kernel
theorem dX9_removesJet_19 : decode cX9_removesJet 19 = .ok (.iconst 1, 1) := by decide +kernel
theorem dX9_removesJet_20 : decode cX9_removesJet 20 = .ok (.iaload, 1) := by decide +kernel
theorem dX9_removesJet_21 : decode cX9_removesJet 21 = .ok (.if_icmp .ge 91, 3) := by decide +kernel
theorem dX9_removesJet_24 : decode cX9_removesJet 24 = .ok (.aload_n 0, 1) := by decide +kernel
theorem dX9_removesJet_25 : decode cX9_removesJet 25 = .ok (.iload_n 3, 1) := by decide +kernel
theorem dX9_removesJet_26 : decode cX9_removesJet 26 = .ok (.invokevirtual 77, 3) := by decide +kernel
theorem dX9_removesJet_29 : decode cX9_removesJet 29 = .ok (.iconst 1, 1) := by decide +kernel
theorem dX9_removesJet_30 : decode cX9_removesJet 30 = .ok (.isub, 1) := by decide +kernel
theorem dX9_removesJet_31 : decode cX9_removesJet 31 = .ok (.istore 4, 2) := by decide +kernel
theorem dX9_removesJet_33 : decode cX9_removesJet 33 = .ok (.iload 4, 2) := by decide +kernel
theorem dX9_removesJet_35 : decode cX9_removesJet 35 = .ok (.ifCond .lt 71, 3) := by decide +kernel
theorem dX9_removesJet_38 : decode cX9_removesJet 38 = .ok (.aload_n 0, 1) := by decide +kernel
theorem dX9_removesJet_39 : decode cX9_removesJet 39 = .ok (.iload_n 3, 1) := by decide +kernel
theorem dX9_removesJet_40 : decode cX9_removesJet 40 = .ok (.iload 4, 2) := by decide +kernel
theorem dX9_removesJet_42 : decode cX9_removesJet 42 = .ok (.iconst 1, 1) := by decide +kernel
theorem dX9_removesJet_43 : decode cX9_removesJet 43 = .ok (.invokevirtual 80, 3) := by decide +kernel
theorem dX9_removesJet_46 : decode cX9_removesJet 46 = .ok (.iload_n 1, 1) := by decide +kernel
theorem dX9_removesJet_47 : decode cX9_removesJet 47 = .ok (.if_icmp .ne 16, 3) := by decide +kernel
theorem dX9_removesJet_50 : decode cX9_removesJet 50 = .ok (.aload_n 0, 1) := by decide +kernel
theorem dX9_removesJet_51 : decode cX9_removesJet 51 = .ok (.iload_n 3, 1) := by decide +kernel
theorem dX9_removesJet_52 : decode cX9_removesJet 52 = .ok (.iload 4, 2) := by decide +kernel
theorem dX9_removesJet_54 : decode cX9_removesJet 54 = .ok (.invokevirtual 94, 3) := by decide +kernel
theorem dX9_removesJet_57 : decode cX9_removesJet 57 = .ok (.iinc 2 1, 3) := by decide +kernel
theorem dX9_removesJet_60 : decode cX9_removesJet 60 = .ok (.goto 40, 3) := by decide +kernel
theorem dX9_removesJet_63 : decode cX9_removesJet 63 = .ok (.aload_n 0, 1) := by decide +kernel
theorem dX9_removesJet_64 : decode cX9_removesJet 64 = .ok (.iload_n 3, 1) := by decide +kernel
theorem dX9_removesJet_65 : decode cX9_removesJet 65 = .ok (.iload 4, 2) := by decide +kernel
theorem dX9_removesJet_67 : decode cX9_removesJet 67 = .ok (.iconst 1, 1) := by decide +kernel
theorem dX9_removesJet_68 : decode cX9_removesJet 68 = .ok (.invokevirtual 80, 3) := by decide +kernel
theorem dX9_removesJet_71 : decode cX9_removesJet 71 = .ok (.iload_n 1, 1) := by decide +kernel
theorem dX9_removesJet_72 : decode cX9_removesJet 72 = .ok (.if_icmp .le 28, 3) := by decide +kernel
theorem dX9_removesJet_75 : decode cX9_removesJet 75 = .ok (.aload_n 0, 1) := by decide +kernel
theorem dX9_removesJet_76 : decode cX9_removesJet 76 = .ok (.getfield 7, 3) := by decide +kernel
theorem dX9_removesJet_79 : decode cX9_removesJet 79 = .ok (.bipush 28, 2) := by decide +kernel
theorem dX9_removesJet_81 : decode cX9_removesJet 81 = .ok (.bipush 25, 2) := by decide +kernel
theorem dX9_removesJet_83 : decode cX9_removesJet 83 = .ok (.iload_n 3, 1) := by decide +kernel
theorem dX9_removesJet_84 : decode cX9_removesJet 84 = .ok (.imul, 1) := by decide +kernel
theorem dX9_removesJet_85 : decode cX9_removesJet 85 = .ok (.iadd, 1) := by decide +kernel
theorem dX9_removesJet_86 : decode cX9_removesJet 86 = .ok (.iconst 1, 1) := by decide +kernel
theorem dX9_removesJet_87 : decode cX9_removesJet 87 = .ok (.iadd, 1) := by decide +kernel
theorem dX9_removesJet_88 : decode cX9_removesJet 88 = .ok (.iconst 3, 1) := by decide +kernel
theorem dX9_removesJet_89 : decode cX9_removesJet 89 = .ok (.iload 4, 2) := by decide +kernel
theorem dX9_removesJet_91 : decode cX9_removesJet 91 = .ok (.imul, 1) := by decide +kernel
theorem dX9_removesJet_92 : decode cX9_removesJet 92 = .ok (.iadd, 1) := by decide +kernel
theorem dX9_removesJet_93 : decode cX9_removesJet 93 = .ok (.iconst 1, 1) := by decide +kernel
theorem dX9_removesJet_94 : decode cX9_removesJet 94 = .ok (.iadd, 1) := by decide +kernel
theorem dX9_removesJet_95 : decode cX9_removesJet 95 = .ok (.dup2, 1) := by decide +kernel
theorem dX9_removesJet_96 : decode cX9_removesJet 96 = .ok (.iaload, 1) := by decide +kernel
theorem dX9_removesJet_97 : decode cX9_removesJet 97 = .ok (.iconst 1, 1) := by decide +kernel
theorem dX9_removesJet_98 : decode cX9_removesJet 98 = .ok (.isub, 1) := by decide +kernel
theorem dX9_removesJet_99 : decode cX9_removesJet 99 = .ok (.iastore, 1) := by decide +kernel
theorem dX9_removesJet_100 : decode cX9_removesJet 100 = .ok (.iinc 4 (-1), 3) := by decide +kernel
theorem dX9_removesJet_103 : decode cX9_removesJet 103 = .ok (.goto (-70), 3) := by decide +kernel
theorem dX9_removesJet_106 : decode cX9_removesJet 106 = .ok (.iinc 3 1, 3) := by decide +kernel
theorem dX9_removesJet_109 : decode cX9_removesJet 109 = .ok (.goto (-95), 3) := by decide +kernel
theorem dX9_removesJet_112 : decode cX9_removesJet 112 = .ok (.aload_n 0, 1) := by decide +kernel
theorem dX9_removesJet_113 : decode cX9_removesJet 113 = .ok (.getfield 7, 3) := by decide +kernel
theorem dX9_removesJet_116 : decode cX9_removesJet 116 = .ok (.iconst 0, 1) := by decide +kernel
theorem dX9_removesJet_117 : decode cX9_removesJet 117 = .ok (.iaload, 1) := by decide +kernel
theorem dX9_removesJet_118 : decode cX9_removesJet 118 = .ok (.iconst 1, 1) := by decide +kernel
theorem dX9_removesJet_119 : decode cX9_removesJet 119 = .ok (.isub, 1) := by decide +kernel
theorem dX9_removesJet_120 : decode cX9_removesJet 120 = .ok (.istore_n 3, 1) := by decide +kernel
theorem dX9_removesJet_121 : decode cX9_removesJet 121 = .ok (.iconst 2, 1) := by decide +kernel
theorem dX9_removesJet_122 : decode cX9_removesJet 122 = .ok (.iload_n 1, 1) := by decide +kernel
theorem dX9_removesJet_123 : decode cX9_removesJet 123 = .ok (.imul, 1) := by decide +kernel
theorem dX9_removesJet_124 : decode cX9_removesJet 124 = .ok (.istore 4, 2) := by decide +kernel
theorem dX9_removesJet_126 : decode cX9_removesJet 126 = .ok (.iload 4, 2) := by decide +kernel
theorem dX9_removesJet_128 : decode cX9_removesJet 128 = .ok (.iconst 2, 1) := by decide +kernel
theorem dX9_removesJet_129 : decode cX9_removesJet 129 = .ok (.iload_n 3, 1) := by decide +kernel
theorem dX9_removesJet_130 : decode cX9_removesJet 130 = .ok (.imul, 1) := by decide +kernel
theorem dX9_removesJet_131 : decode cX9_removesJet 131 = .ok (.if_icmp .ge 31, 3) := by decide +kernel
theorem dX9_removesJet_134 : decode cX9_removesJet 134 = .ok (.aload_n 0, 1) := by decide +kernel
theorem dX9_removesJet_135 : decode cX9_removesJet 135 = .ok (.getfield 7, 3) := by decide +kernel
theorem dX9_removesJet_138 : decode cX9_removesJet 138 = .ok (.bipush 8, 2) := by decide +kernel
theorem dX9_removesJet_140 : decode cX9_removesJet 140 = .ok (.iload 4, 2) := by decide +kernel
theorem dX9_removesJet_142 : decode cX9_removesJet 142 = .ok (.iadd, 1) := by decide +kernel
theorem dX9_removesJet_143 : decode cX9_removesJet 143 = .ok (.aload_n 0, 1) := by decide +kernel
theorem dX9_removesJet_144 : decode cX9_removesJet 144 = .ok (.getfield 7, 3) := by decide +kernel
theorem dX9_removesJet_147 : decode cX9_removesJet 147 = .ok (.bipush 8, 2) := by decide +kernel
theorem dX9_removesJet_149 : decode cX9_removesJet 149 = .ok (.iload 4, 2) := by decide +kernel
theorem dX9_removesJet_151 : decode cX9_removesJet 151 = .ok (.iadd, 1) := by decide +kernel
theorem dX9_removesJet_152 : decode cX9_removesJet 152 = .ok (.iconst 2, 1) := by decide +kernel
theorem dX9_removesJet_153 : decode cX9_removesJet 153 = .ok (.iadd, 1) := by decide +kernel
theorem dX9_removesJet_154 : decode cX9_removesJet 154 = .ok (.iaload, 1) := by decide +kernel
theorem dX9_removesJet_155 : decode cX9_removesJet 155 = .ok (.iastore, 1) := by decide +kernel
theorem dX9_removesJet_156 : decode cX9_removesJet 156 = .ok (.iinc 4 1, 3) := by decide +kernel
theorem dX9_removesJet_159 : decode cX9_removesJet 159 = .ok (.goto (-33), 3) := by decide +kernel
theorem dX9_removesJet_162 : decode cX9_removesJet 162 = .ok (.aload_n 0, 1) := by decide +kernel
theorem dX9_removesJet_163 : decode cX9_removesJet 163 = .ok (.getfield 7, 3) := by decide +kernel
theorem dX9_removesJet_166 : decode cX9_removesJet 166 = .ok (.bipush 8, 2) := by decide +kernel
theorem dX9_removesJet_168 : decode cX9_removesJet 168 = .ok (.iconst 2, 1) := by decide +kernel
theorem dX9_removesJet_169 : decode cX9_removesJet 169 = .ok (.iload_n 3, 1) := by decide +kernel
theorem dX9_removesJet_170 : decode cX9_removesJet 170 = .ok (.imul, 1) := by decide +kernel
theorem dX9_removesJet_171 : decode cX9_removesJet 171 = .ok (.iadd, 1) := by decide +kernel
theorem dX9_removesJet_172 : decode cX9_removesJet 172 = .ok (.iconst 0, 1) := by decide +kernel
theorem dX9_removesJet_173 : decode cX9_removesJet 173 = .ok (.iastore, 1) := by decide +kernel
theorem dX9_removesJet_174 : decode cX9_removesJet 174 = .ok (.aload_n 0, 1) := by decide +kernel
theorem dX9_removesJet_175 : decode cX9_removesJet 175 = .ok (.getfield 7, 3) := by decide +kernel
theorem dX9_removesJet_178 : decode cX9_removesJet 178 = .ok (.bipush 8, 2) := by decide +kernel
theorem dX9_removesJet_180 : decode cX9_removesJet 180 = .ok (.iconst 2, 1) := by decide +kernel
theorem dX9_removesJet_181 : decode cX9_removesJet 181 = .ok (.iload_n 3, 1) := by decide +kernel
theorem dX9_removesJet_182 : decode cX9_removesJet 182 = .ok (.imul, 1) := by decide +kernel
theorem dX9_removesJet_183 : decode cX9_removesJet 183 = .ok (.iadd, 1) := by decide +kernel
theorem dX9_removesJet_184 : decode cX9_removesJet 184 = .ok (.iconst 1, 1) := by decide +kernel
theorem dX9_removesJet_185 : decode cX9_removesJet 185 = .ok (.iadd, 1) := by decide +kernel
theorem dX9_removesJet_186 : decode cX9_removesJet 186 = .ok (.iconst 0, 1) := by decide +kernel
theorem dX9_removesJet_187 : decode cX9_removesJet 187 = .ok (.iastore, 1) := by decide +kernel
theorem dX9_removesJet_188 : decode cX9_removesJet 188 = .ok (.aload_n 0, 1) := by decide +kernel
theorem dX9_removesJet_189 : decode cX9_removesJet 189 = .ok (.getfield 7, 3) := by decide +kernel
theorem dX9_removesJet_192 : decode cX9_removesJet 192 = .ok (.iconst 0, 1) := by decide +kernel
theorem dX9_removesJet_193 : decode cX9_removesJet 193 = .ok (.iload_n 3, 1) := by decide +kernel
theorem dX9_removesJet_194 : decode cX9_removesJet 194 = .ok (.iastore, 1) := by decide +kernel
theorem dX9_removesJet_195 : decode cX9_removesJet 195 = .ok (.aload_n 0, 1) := by decide +kernel
theorem dX9_removesJet_196 : decode cX9_removesJet 196 = .ok (.iload_n 2, 1) := by decide +kernel
theorem dX9_removesJet_197 : decode cX9_removesJet 197 = .ok (.invokevirtual 87, 3) := by decide +kernel
theorem dX9_removesJet_200 : decode cX9_removesJet 200 = .ok (.ireturn, 1) := by decide +kernel
theorem dX9_opens_0 : decode cX9_opens 0 = .ok (.aload_n 0, 1) := by decide +kernel
theorem dX9_opens_1 : decode cX9_opens 1 = .ok (.iload_n 1, 1) := by decide +kernel
theorem dX9_opens_2 : decode cX9_opens 2 = .ok (.invokevirtual 90, 3) := by decide +kernel
theorem dX9_opens_5 : decode cX9_opens 5 = .ok (.ifCond .ne 5, 3) := by decide +kernel
theorem dX9_opens_8 : decode cX9_opens 8 = .ok (.iconst 1, 1) := by decide +kernel
theorem dX9_opens_9 : decode cX9_opens 9 = .ok (.ireturn, 1) := by decide +kernel
theorem dX9_opens_10 : decode cX9_opens 10 = .ok (.iload_n 2, 1) := by decide +kernel
theorem dX9_opens_11 : decode cX9_opens 11 = .ok (.iconst 0, 1) := by decide +kernel
theorem dX9_opens_12 : decode cX9_opens 12 = .ok (.bipush 10, 2) := by decide +kernel
theorem dX9_opens_14 : decode cX9_opens 14 = .ok (.invokestatic 57, 3) := by decide +kernel
theorem dX9_opens_17 : decode cX9_opens 17 = .ok (.ifCond .ne 5, 3) := by decide +kernel
theorem dX9_opens_20 : decode cX9_opens 20 = .ok (.iconst 2, 1) := by decide +kernel
theorem dX9_opens_21 : decode cX9_opens 21 = .ok (.ireturn, 1) := by decide +kernel
theorem dX9_opens_22 : decode cX9_opens 22 = .ok (.aload_n 0, 1) := by decide +kernel
theorem dX9_opens_23 : decode cX9_opens 23 = .ok (.iload_n 1, 1) := by decide +kernel
theorem dX9_opens_24 : decode cX9_opens 24 = .ok (.invokevirtual 61, 3) := by decide +kernel
theorem dX9_opens_27 : decode cX9_opens 27 = .ok (.istore_n 3, 1) := by decide +kernel
theorem dX9_opens_28 : decode cX9_opens 28 = .ok (.aload_n 0, 1) := by decide +kernel
theorem dX9_opens_29 : decode cX9_opens 29 = .ok (.getfield 7, 3) := by decide +kernel
theorem dX9_opens_32 : decode cX9_opens 32 = .ok (.bipush 8, 2) := by decide +kernel
theorem dX9_opens_34 : decode cX9_opens 34 = .ok (.iconst 2, 1) := by decide +kernel
theorem dX9_opens_35 : decode cX9_opens 35 = .ok (.iload_n 1, 1) := by decide +kernel
theorem dX9_opens_36 : decode cX9_opens 36 = .ok (.imul, 1) := by decide +kernel
theorem dX9_opens_37 : decode cX9_opens 37 = .ok (.iadd, 1) := by decide +kernel
theorem dX9_opens_38 : decode cX9_opens 38 = .ok (.iconst 1, 1) := by decide +kernel
theorem dX9_opens_39 : decode cX9_opens 39 = .ok (.iadd, 1) := by decide +kernel
theorem dX9_opens_40 : decode cX9_opens 40 = .ok (.iload_n 2, 1) := by decide +kernel
theorem dX9_opens_41 : decode cX9_opens 41 = .ok (.iastore, 1) := by decide +kernel
theorem dX9_opens_42 : decode cX9_opens 42 = .ok (.aload_n 0, 1) := by decide +kernel
theorem dX9_opens_43 : decode cX9_opens 43 = .ok (.iload_n 3, 1) := by decide +kernel
theorem dX9_opens_44 : decode cX9_opens 44 = .ok (.invokevirtual 87, 3) := by decide +kernel
theorem dX9_opens_47 : decode cX9_opens 47 = .ok (.ireturn, 1) := by decide +kernel
theorem dX9_pumps_0 : decode cX9_pumps 0 = .ok (.iload_n 1, 1) := by decide +kernel
theorem dX9_pumps_1 : decode cX9_pumps 1 = .ok (.iconst 0, 1) := by decide +kernel
theorem dX9_pumps_2 : decode cX9_pumps 2 = .ok (.bipush 100, 2) := by decide +kernel
theorem dX9_pumps_4 : decode cX9_pumps 4 = .ok (.invokestatic 57, 3) := by decide +kernel
theorem dX9_pumps_7 : decode cX9_pumps 7 = .ok (.ifCond .ne 5, 3) := by decide +kernel
theorem dX9_pumps_10 : decode cX9_pumps 10 = .ok (.iconst 1, 1) := by decide +kernel
theorem dX9_pumps_11 : decode cX9_pumps 11 = .ok (.ireturn, 1) := by decide +kernel
theorem dX9_pumps_12 : decode cX9_pumps 12 = .ok (.aload_n 0, 1) := by decide +kernel
theorem dX9_pumps_13 : decode cX9_pumps 13 = .ok (.getfield 7, 3) := by decide +kernel
theorem dX9_pumps_16 : decode cX9_pumps 16 = .ok (.iconst 3, 1) := by decide +kernel
theorem dX9_pumps_17 : decode cX9_pumps 17 = .ok (.iaload, 1) := by decide +kernel
theorem dX9_pumps_18 : decode cX9_pumps 18 = .ok (.istore_n 2, 1) := by decide +kernel
theorem dX9_pumps_19 : decode cX9_pumps 19 = .ok (.aload_n 0, 1) := by decide +kernel
theorem dX9_pumps_20 : decode cX9_pumps 20 = .ok (.getfield 7, 3) := by decide +kernel
theorem dX9_pumps_23 : decode cX9_pumps 23 = .ok (.iconst 3, 1) := by decide +kernel
theorem dX9_pumps_24 : decode cX9_pumps 24 = .ok (.iload_n 1, 1) := by decide +kernel
theorem dX9_pumps_25 : decode cX9_pumps 25 = .ok (.iastore, 1) := by decide +kernel
theorem dX9_pumps_26 : decode cX9_pumps 26 = .ok (.aload_n 0, 1) := by decide +kernel
theorem dX9_pumps_27 : decode cX9_pumps 27 = .ok (.iload_n 2, 1) := by decide +kernel
theorem dX9_pumps_28 : decode cX9_pumps 28 = .ok (.invokevirtual 87, 3) := by decide +kernel
theorem dX9_pumps_31 : decode cX9_pumps 31 = .ok (.ireturn, 1) := by decide +kernel
theorem dX9_blows_0 : decode cX9_blows 0 = .ok (.iload_n 1, 1) := by decide +kernel
theorem dX9_blows_1 : decode cX9_blows 1 = .ok (.bipush (-9), 2) := by decide +kernel
theorem dX9_blows_3 : decode cX9_blows 3 = .ok (.bipush 9, 2) := by decide +kernel
theorem dX9_blows_5 : decode cX9_blows 5 = .ok (.invokestatic 57, 3) := by decide +kernel
theorem dX9_blows_8 : decode cX9_blows 8 = .ok (.ifCond .ne 5, 3) := by decide +kernel
theorem dX9_blows_11 : decode cX9_blows 11 = .ok (.iconst 1, 1) := by decide +kernel
theorem dX9_blows_12 : decode cX9_blows 12 = .ok (.ireturn, 1) := by decide +kernel
theorem dX9_blows_13 : decode cX9_blows 13 = .ok (.aload_n 0, 1) := by decide +kernel
theorem dX9_blows_14 : decode cX9_blows 14 = .ok (.getfield 7, 3) := by decide +kernel
theorem dX9_blows_17 : decode cX9_blows 17 = .ok (.iconst 4, 1) := by decide +kernel
theorem dX9_blows_18 : decode cX9_blows 18 = .ok (.iaload, 1) := by decide +kernel
theorem dX9_blows_19 : decode cX9_blows 19 = .ok (.istore_n 2, 1) := by decide +kernel
theorem dX9_blows_20 : decode cX9_blows 20 = .ok (.aload_n 0, 1) := by decide +kernel
theorem dX9_blows_21 : decode cX9_blows 21 = .ok (.getfield 7, 3) := by decide +kernel
theorem dX9_blows_24 : decode cX9_blows 24 = .ok (.iconst 4, 1) := by decide +kernel
theorem dX9_blows_25 : decode cX9_blows 25 = .ok (.iload_n 1, 1) := by decide +kernel
theorem dX9_blows_26 : decode cX9_blows 26 = .ok (.iastore, 1) := by decide +kernel
theorem dX9_blows_27 : decode cX9_blows 27 = .ok (.aload_n 0, 1) := by decide +kernel
theorem dX9_blows_28 : decode cX9_blows 28 = .ok (.iload_n 2, 1) := by decide +kernel
theorem dX9_blows_29 : decode cX9_blows 29 = .ok (.invokevirtual 87, 3) := by decide +kernel
theorem dX9_blows_32 : decode cX9_blows 32 = .ok (.ireturn, 1) := by decide +kernel
theorem dX9_trims_0 : decode cX9_trims 0 = .ok (.iconst 0, 1) := by decide +kernel
theorem dX9_trims_1 : decode cX9_trims 1 = .ok (.istore_n 1, 1) := by decide +kernel
theorem dX9_trims_2 : decode cX9_trims 2 = .ok (.iconst 0, 1) := by decide +kernel
theorem dX9_trims_3 : decode cX9_trims 3 = .ok (.istore_n 2, 1) := by decide +kernel
theorem dX9_trims_4 : decode cX9_trims 4 = .ok (.iload_n 2, 1) := by decide +kernel
theorem dX9_trims_5 : decode cX9_trims 5 = .ok (.aload_n 0, 1) := by decide +kernel
theorem dX9_trims_6 : decode cX9_trims 6 = .ok (.getfield 7, 3) := by decide +kernel
theorem dX9_trims_9 : decode cX9_trims 9 = .ok (.iconst 0, 1) := by decide +kernel
theorem dX9_trims_10 : decode cX9_trims 10 = .ok (.iaload, 1) := by decide +kernel
theorem dX9_trims_11 : decode cX9_trims 11 = .ok (.if_icmp .ge 42, 3) := by decide +kernel
theorem dX9_trims_14 : decode cX9_trims 14 = .ok (.aload_n 0, 1) := by decide +kernel
theorem dX9_trims_15 : decode cX9_trims 15 = .ok (.iload_n 2, 1) := by decide +kernel
theorem dX9_trims_16 : decode cX9_trims 16 = .ok (.invokevirtual 98, 3) := by decide +kernel
theorem dX9_trims_19 : decode cX9_trims 19 = .ok (.ifCond .ne 9, 3) := by decide +kernel
theorem dX9_trims_22 : decode cX9_trims 22 = .ok (.iinc 2 1, 3) := by decide +kernel
theorem dX9_trims_25 : decode cX9_trims 25 = .ok (.goto (-21), 3) := by decide +kernel
theorem dX9_trims_28 : decode cX9_trims 28 = .ok (.aload_n 0, 1) := by decide +kernel
theorem dX9_trims_29 : decode cX9_trims 29 = .ok (.getfield 7, 3) := by decide +kernel
theorem dX9_trims_32 : decode cX9_trims 32 = .ok (.bipush 8, 2) := by decide +kernel
theorem dX9_trims_34 : decode cX9_trims 34 = .ok (.iconst 2, 1) := by decide +kernel
theorem dX9_trims_35 : decode cX9_trims 35 = .ok (.iload_n 2, 1) := by decide +kernel
theorem dX9_trims_36 : decode cX9_trims 36 = .ok (.imul, 1) := by decide +kernel
theorem dX9_trims_37 : decode cX9_trims 37 = .ok (.iadd, 1) := by decide +kernel
theorem dX9_trims_38 : decode cX9_trims 38 = .ok (.iconst 1, 1) := by decide +kernel
theorem dX9_trims_39 : decode cX9_trims 39 = .ok (.iadd, 1) := by decide +kernel
theorem dX9_trims_40 : decode cX9_trims 40 = .ok (.dup2, 1) := by decide +kernel
theorem dX9_trims_41 : decode cX9_trims 41 = .ok (.iaload, 1) := by decide +kernel
theorem dX9_trims_42 : decode cX9_trims 42 = .ok (.iconst 1, 1) := by decide +kernel
theorem dX9_trims_43 : decode cX9_trims 43 = .ok (.isub, 1) := by decide +kernel
theorem dX9_trims_44 : decode cX9_trims 44 = .ok (.iastore, 1) := by decide +kernel
theorem dX9_trims_45 : decode cX9_trims 45 = .ok (.iinc 1 1, 3) := by decide +kernel
theorem dX9_trims_48 : decode cX9_trims 48 = .ok (.iconst 0, 1) := by decide +kernel
theorem dX9_trims_49 : decode cX9_trims 49 = .ok (.istore_n 2, 1) := by decide +kernel
theorem dX9_trims_50 : decode cX9_trims 50 = .ok (.goto (-46), 3) := by decide +kernel
theorem dX9_trims_53 : decode cX9_trims 53 = .ok (.aload_n 0, 1) := by decide +kernel
theorem dX9_trims_54 : decode cX9_trims 54 = .ok (.iload_n 1, 1) := by decide +kernel
theorem dX9_trims_55 : decode cX9_trims 55 = .ok (.invokevirtual 87, 3) := by decide +kernel
theorem dX9_trims_58 : decode cX9_trims 58 = .ok (.ireturn, 1) := by decide +kernel
theorem dX9_addsFigure_0 : decode cX9_addsFigure 0 = .ok (.aload_n 0, 1) := by decide +kernel
theorem dX9_addsFigure_1 : decode cX9_addsFigure 1 = .ok (.getfield 7, 3) := by decide +kernel
theorem dX9_addsFigure_4 : decode cX9_addsFigure 4 = .ok (.iconst 1, 1) := by decide +kernel
theorem dX9_addsFigure_5 : decode cX9_addsFigure 5 = .ok (.iaload, 1) := by decide +kernel
theorem dX9_addsFigure_6 : decode cX9_addsFigure 6 = .ok (.istore_n 1, 1) := by decide +kernel
theorem dX9_addsFigure_7 : decode cX9_addsFigure 7 = .ok (.iload_n 1, 1) := by decide +kernel
theorem dX9_addsFigure_8 : decode cX9_addsFigure 8 = .ok (.iconst 5, 1) := by decide +kernel
theorem dX9_addsFigure_9 : decode cX9_addsFigure 9 = .ok (.if_icmp .ne 5, 3) := by decide +kernel
theorem dX9_addsFigure_12 : decode cX9_addsFigure 12 = .ok (.iconst 1, 1) := by decide +kernel
theorem dX9_addsFigure_13 : decode cX9_addsFigure 13 = .ok (.ireturn, 1) := by decide +kernel
theorem dX9_addsFigure_14 : decode cX9_addsFigure 14 = .ok (.iconst 0, 1) := by decide +kernel
theorem dX9_addsFigure_15 : decode cX9_addsFigure 15 = .ok (.istore_n 2, 1) := by decide +kernel
theorem dX9_addsFigure_16 : decode cX9_addsFigure 16 = .ok (.iload_n 2, 1) := by decide +kernel
theorem dX9_addsFigure_17 : decode cX9_addsFigure 17 = .ok (.bipush 25, 2) := by decide +kernel
theorem dX9_addsFigure_19 : decode cX9_addsFigure 19 = .ok (.if_icmp .ge 24, 3) := by decide +kernel
theorem dX9_addsFigure_22 : decode cX9_addsFigure 22 = .ok (.aload_n 0, 1) := by decide +kernel
theorem dX9_addsFigure_23 : decode cX9_addsFigure 23 = .ok (.getfield 7, 3) := by decide +kernel
theorem dX9_addsFigure_26 : decode cX9_addsFigure 26 = .ok (.bipush 28, 2) := by decide +kernel
theorem dX9_addsFigure_28 : decode cX9_addsFigure 28 = .ok (.bipush 25, 2) := by decide +kernel
theorem dX9_addsFigure_30 : decode cX9_addsFigure 30 = .ok (.iload_n 1, 1) := by decide +kernel
theorem dX9_addsFigure_31 : decode cX9_addsFigure 31 = .ok (.imul, 1) := by decide +kernel
theorem dX9_addsFigure_32 : decode cX9_addsFigure 32 = .ok (.iadd, 1) := by decide +kernel
theorem dX9_addsFigure_33 : decode cX9_addsFigure 33 = .ok (.iload_n 2, 1) := by decide +kernel
theorem dX9_addsFigure_34 : decode cX9_addsFigure 34 = .ok (.iadd, 1) := by decide +kernel
theorem dX9_addsFigure_35 : decode cX9_addsFigure 35 = .ok (.iconst 0, 1) := by decide +kernel
theorem dX9_addsFigure_36 : decode cX9_addsFigure 36 = .ok (.iastore, 1) := by decide +kernel
theorem dX9_addsFigure_37 : decode cX9_addsFigure 37 = .ok (.iinc 2 1, 3) := by decide +kernel
theorem dX9_addsFigure_40 : decode cX9_addsFigure 40 = .ok (.goto (-24), 3) := by decide +kernel
theorem dX9_addsFigure_43 : decode cX9_addsFigure 43 = .ok (.aload_n 0, 1) := by decide +kernel
theorem dX9_addsFigure_44 : decode cX9_addsFigure 44 = .ok (.getfield 7, 3) := by decide +kernel
theorem dX9_addsFigure_47 : decode cX9_addsFigure 47 = .ok (.iconst 1, 1) := by decide +kernel
theorem dX9_addsFigure_48 : decode cX9_addsFigure 48 = .ok (.iload_n 1, 1) := by decide +kernel
theorem dX9_addsFigure_49 : decode cX9_addsFigure 49 = .ok (.iconst 1, 1) := by decide +kernel
theorem dX9_addsFigure_50 : decode cX9_addsFigure 50 = .ok (.iadd, 1) := by decide +kernel
theorem dX9_addsFigure_51 : decode cX9_addsFigure 51 = .ok (.iastore, 1) := by decide +kernel
theorem dX9_addsFigure_52 : decode cX9_addsFigure 52 = .ok (.aload_n 0, 1) := by decide +kernel
theorem dX9_addsFigure_53 : decode cX9_addsFigure 53 = .ok (.iload_n 1, 1) := by decide +kernel
theorem dX9_addsFigure_54 : decode cX9_addsFigure 54 = .ok (.invokevirtual 87, 3) := by decide +kernel
theorem dX9_addsFigure_57 : decode cX9_addsFigure 57 = .ok (.ireturn, 1) := by decide +kernel
theorem dX9_removesFigure_0 : decode cX9_removesFigure 0 = .ok (.aload_n 0, 1) := by decide +kernel
theorem dX9_removesFigure_1 : decode cX9_removesFigure 1 = .ok (.iload_n 1, 1) := by decide +kernel
theorem dX9_removesFigure_2 : decode cX9_removesFigure 2 = .ok (.invokevirtual 101, 3) := by decide +kernel
theorem dX9_removesFigure_5 : decode cX9_removesFigure 5 = .ok (.ifCond .ne 5, 3) := by decide +kernel
theorem dX9_removesFigure_8 : decode cX9_removesFigure 8 = .ok (.iconst 1, 1) := by decide +kernel
theorem dX9_removesFigure_9 : decode cX9_removesFigure 9 = .ok (.ireturn, 1) := by decide +kernel
theorem dX9_removesFigure_10 : decode cX9_removesFigure 10 = .ok (.iconst 0, 1) := by decide +kernel
theorem dX9_removesFigure_11 : decode cX9_removesFigure 11 = .ok (.istore_n 2, 1) := by decide +kernel
theorem dX9_removesFigure_12 : decode cX9_removesFigure 12 = .ok (.iload_n 2, 1) := by decide +kernel
theorem dX9_removesFigure_13 : decode cX9_removesFigure 13 = .ok (.aload_n 0, 1) := by decide +kernel
theorem dX9_removesFigure_14 : decode cX9_removesFigure 14 = .ok (.getfield 7, 3) := by decide +kernel
theorem dX9_removesFigure_17 : decode cX9_removesFigure 17 = .ok (.iconst 2, 1) := by decide +kernel
theorem dX9_removesFigure_18 : decode cX9_removesFigure 18 = .ok (.iaload, 1) := by decide +kernel
theorem dX9_removesFigure_19 : decode cX9_removesFigure 19 = .ok (.if_icmp .ge 27, 3) := by decide +kernel
theorem dX9_removesFigure_22 : decode cX9_removesFigure 22 = .ok (.aload_n 0, 1) := by decide +kernel
theorem dX9_removesFigure_23 : decode cX9_removesFigure 23 = .ok (.getfield 7, 3) := by decide +kernel
theorem dX9_removesFigure_26 : decode cX9_removesFigure 26 = .ok (.sipush 153, 3) := by decide +kernel
theorem dX9_removesFigure_29 : decode cX9_removesFigure 29 = .ok (.iconst 2, 1) := by decide +kernel
theorem dX9_removesFigure_30 : decode cX9_removesFigure 30 = .ok (.iload_n 2, 1) := by decide +kernel
theorem dX9_removesFigure_31 : decode cX9_removesFigure 31 = .ok (.imul, 1) := by decide +kernel
theorem dX9_removesFigure_32 : decode cX9_removesFigure 32 = .ok (.iadd, 1) := by decide +kernel
theorem dX9_removesFigure_33 : decode cX9_removesFigure 33 = .ok (.iaload, 1) := by decide +kernel
theorem dX9_removesFigure_34 : decode cX9_removesFigure 34 = .ok (.iload_n 1, 1) := by decide +kernel
theorem dX9_removesFigure_35 : decode cX9_removesFigure 35 = .ok (.if_icmp .ne 5, 3) := by decide +kernel
theorem dX9_removesFigure_38 : decode cX9_removesFigure 38 = .ok (.iconst 2, 1) := by decide +kernel
theorem dX9_removesFigure_39 : decode cX9_removesFigure 39 = .ok (.ireturn, 1) := by decide +kernel
theorem dX9_removesFigure_40 : decode cX9_removesFigure 40 = .ok (.iinc 2 1, 3) := by decide +kernel
theorem dX9_removesFigure_43 : decode cX9_removesFigure 43 = .ok (.goto (-31), 3) := by decide +kernel
theorem dX9_removesFigure_46 : decode cX9_removesFigure 46 = .ok (.aload_n 0, 1) := by decide +kernel
theorem dX9_removesFigure_47 : decode cX9_removesFigure 47 = .ok (.iload_n 1, 1) := by decide +kernel
theorem dX9_removesFigure_48 : decode cX9_removesFigure 48 = .ok (.invokevirtual 77, 3) := by decide +kernel
theorem dX9_removesFigure_51 : decode cX9_removesFigure 51 = .ok (.istore_n 2, 1) := by decide +kernel
theorem dX9_removesFigure_52 : decode cX9_removesFigure 52 = .ok (.aload_n 0, 1) := by decide +kernel
theorem dX9_removesFigure_53 : decode cX9_removesFigure 53 = .ok (.getfield 7, 3) := by decide +kernel
theorem dX9_removesFigure_56 : decode cX9_removesFigure 56 = .ok (.iconst 1, 1) := by decide +kernel
theorem dX9_removesFigure_57 : decode cX9_removesFigure 57 = .ok (.iaload, 1) := by decide +kernel
theorem dX9_removesFigure_58 : decode cX9_removesFigure 58 = .ok (.iconst 1, 1) := by decide +kernel
theorem dX9_removesFigure_59 : decode cX9_removesFigure 59 = .ok (.isub, 1) := by decide +kernel
theorem dX9_removesFigure_60 : decode cX9_removesFigure 60 = .ok (.istore_n 3, 1) := by decide +kernel
theorem dX9_removesFigure_61 : decode cX9_removesFigure 61 = .ok (.bipush 25, 2) := by decide +kernel
theorem dX9_removesFigure_63 : decode cX9_removesFigure 63 = .ok (.iload_n 1, 1) := by decide +kernel
theorem dX9_removesFigure_64 : decode cX9_removesFigure 64 = .ok (.imul, 1) := by decide +kernel
theorem dX9_removesFigure_65 : decode cX9_removesFigure 65 = .ok (.istore 4, 2) := by decide +kernel
theorem dX9_removesFigure_67 : decode cX9_removesFigure 67 = .ok (.iload 4, 2) := by decide +kernel
theorem dX9_removesFigure_69 : decode cX9_removesFigure 69 = .ok (.bipush 25, 2) := by decide +kernel
theorem dX9_removesFigure_71 : decode cX9_removesFigure 71 = .ok (.iload_n 3, 1) := by decide +kernel
theorem dX9_removesFigure_72 : decode cX9_removesFigure 72 = .ok (.imul, 1) := by decide +kernel
theorem dX9_removesFigure_73 : decode cX9_removesFigure 73 = .ok (.if_icmp .ge 32, 3) := by decide +kernel
theorem dX9_removesFigure_76 : decode cX9_removesFigure 76 = .ok (.aload_n 0, 1) := by decide +kernel
theorem dX9_removesFigure_77 : decode cX9_removesFigure 77 = .ok (.getfield 7, 3) := by decide +kernel
theorem dX9_removesFigure_80 : decode cX9_removesFigure 80 = .ok (.bipush 28, 2) := by decide +kernel
theorem dX9_removesFigure_82 : decode cX9_removesFigure 82 = .ok (.iload 4, 2) := by decide +kernel
theorem dX9_removesFigure_84 : decode cX9_removesFigure 84 = .ok (.iadd, 1) := by decide +kernel
theorem dX9_removesFigure_85 : decode cX9_removesFigure 85 = .ok (.aload_n 0, 1) := by decide +kernel
theorem dX9_removesFigure_86 : decode cX9_removesFigure 86 = .ok (.getfield 7, 3) := by decide +kernel
theorem dX9_removesFigure_89 : decode cX9_removesFigure 89 = .ok (.bipush 28, 2) := by decide +kernel
theorem dX9_removesFigure_91 : decode cX9_removesFigure 91 = .ok (.iload 4, 2) := by decide +kernel
theorem dX9_removesFigure_93 : decode cX9_removesFigure 93 = .ok (.iadd, 1) := by decide +kernel
theorem dX9_removesFigure_94 : decode cX9_removesFigure 94 = .ok (.bipush 25, 2) := by decide +kernel
theorem dX9_removesFigure_96 : decode cX9_removesFigure 96 = .ok (.iadd, 1) := by decide +kernel
theorem dX9_removesFigure_97 : decode cX9_removesFigure 97 = .ok (.iaload, 1) := by decide +kernel
theorem dX9_removesFigure_98 : decode cX9_removesFigure 98 = .ok (.iastore, 1) := by decide +kernel
theorem dX9_removesFigure_99 : decode cX9_removesFigure 99 = .ok (.iinc 4 1, 3) := by decide +kernel
theorem dX9_removesFigure_102 : decode cX9_removesFigure 102 = .ok (.goto (-35), 3) := by decide +kernel
theorem dX9_removesFigure_105 : decode cX9_removesFigure 105 = .ok (.iconst 0, 1) := by decide +kernel
theorem dX9_removesFigure_106 : decode cX9_removesFigure 106 = .ok (.istore 4, 2) := by decide +kernel
theorem dX9_removesFigure_108 : decode cX9_removesFigure 108 = .ok (.iload 4, 2) := by decide +kernel
theorem dX9_removesFigure_110 : decode cX9_removesFigure 110 = .ok (.bipush 25, 2) := by decide +kernel
theorem dX9_removesFigure_112 : decode cX9_removesFigure 112 = .ok (.if_icmp .ge 25, 3) := by decide +kernel
theorem dX9_removesFigure_115 : decode cX9_removesFigure 115 = .ok (.aload_n 0, 1) := by decide +kernel
theorem dX9_removesFigure_116 : decode cX9_removesFigure 116 = .ok (.getfield 7, 3) := by decide +kernel
theorem dX9_removesFigure_119 : decode cX9_removesFigure 119 = .ok (.bipush 28, 2) := by decide +kernel
theorem dX9_removesFigure_121 : decode cX9_removesFigure 121 = .ok (.bipush 25, 2) := by decide +kernel
theorem dX9_removesFigure_123 : decode cX9_removesFigure 123 = .ok (.iload_n 3, 1) := by decide +kernel
theorem dX9_removesFigure_124 : decode cX9_removesFigure 124 = .ok (.imul, 1) := by decide +kernel
theorem dX9_removesFigure_125 : decode cX9_removesFigure 125 = .ok (.iadd, 1) := by decide +kernel
theorem dX9_removesFigure_126 : decode cX9_removesFigure 126 = .ok (.iload 4, 2) := by decide +kernel
theorem dX9_removesFigure_128 : decode cX9_removesFigure 128 = .ok (.iadd, 1) := by decide +kernel
theorem dX9_removesFigure_129 : decode cX9_removesFigure 129 = .ok (.iconst 0, 1) := by decide +kernel
theorem dX9_removesFigure_130 : decode cX9_removesFigure 130 = .ok (.iastore, 1) := by decide +kernel
theorem dX9_removesFigure_131 : decode cX9_removesFigure 131 = .ok (.iinc 4 1, 3) := by decide +kernel
theorem dX9_removesFigure_134 : decode cX9_removesFigure 134 = .ok (.goto (-26), 3) := by decide +kernel
theorem dX9_removesFigure_137 : decode cX9_removesFigure 137 = .ok (.aload_n 0, 1) := by decide +kernel
theorem dX9_removesFigure_138 : decode cX9_removesFigure 138 = .ok (.getfield 7, 3) := by decide +kernel
theorem dX9_removesFigure_141 : decode cX9_removesFigure 141 = .ok (.iconst 1, 1) := by decide +kernel
theorem dX9_removesFigure_142 : decode cX9_removesFigure 142 = .ok (.iload_n 3, 1) := by decide +kernel
theorem dX9_removesFigure_143 : decode cX9_removesFigure 143 = .ok (.iastore, 1) := by decide +kernel
theorem dX9_removesFigure_144 : decode cX9_removesFigure 144 = .ok (.iconst 0, 1) := by decide +kernel
theorem dX9_removesFigure_145 : decode cX9_removesFigure 145 = .ok (.istore 4, 2) := by decide +kernel
theorem dX9_removesFigure_147 : decode cX9_removesFigure 147 = .ok (.iload 4, 2) := by decide +kernel
theorem dX9_removesFigure_149 : decode cX9_removesFigure 149 = .ok (.aload_n 0, 1) := by decide +kernel
theorem dX9_removesFigure_150 : decode cX9_removesFigure 150 = .ok (.getfield 7, 3) := by decide +kernel
theorem dX9_removesFigure_153 : decode cX9_removesFigure 153 = .ok (.iconst 2, 1) := by decide +kernel
theorem dX9_removesFigure_154 : decode cX9_removesFigure 154 = .ok (.iaload, 1) := by decide +kernel
theorem dX9_removesFigure_155 : decode cX9_removesFigure 155 = .ok (.if_icmp .ge 47, 3) := by decide +kernel
theorem dX9_removesFigure_158 : decode cX9_removesFigure 158 = .ok (.aload_n 0, 1) := by decide +kernel
theorem dX9_removesFigure_159 : decode cX9_removesFigure 159 = .ok (.getfield 7, 3) := by decide +kernel
theorem dX9_removesFigure_162 : decode cX9_removesFigure 162 = .ok (.sipush 153, 3) := by decide +kernel
theorem dX9_removesFigure_165 : decode cX9_removesFigure 165 = .ok (.iconst 2, 1) := by decide +kernel
theorem dX9_removesFigure_166 : decode cX9_removesFigure 166 = .ok (.iload 4, 2) := by decide +kernel
theorem dX9_removesFigure_168 : decode cX9_removesFigure 168 = .ok (.imul, 1) := by decide +kernel
theorem dX9_removesFigure_169 : decode cX9_removesFigure 169 = .ok (.iadd, 1) := by decide +kernel
theorem dX9_removesFigure_170 : decode cX9_removesFigure 170 = .ok (.dup2, 1) := by decide +kernel
theorem dX9_removesFigure_171 : decode cX9_removesFigure 171 = .ok (.iaload, 1) := by decide +kernel
theorem dX9_removesFigure_172 : decode cX9_removesFigure 172 = .ok (.aload_n 0, 1) := by decide +kernel
theorem dX9_removesFigure_173 : decode cX9_removesFigure 173 = .ok (.getfield 7, 3) := by decide +kernel
theorem dX9_removesFigure_176 : decode cX9_removesFigure 176 = .ok (.sipush 153, 3) := by decide +kernel
theorem dX9_removesFigure_179 : decode cX9_removesFigure 179 = .ok (.iconst 2, 1) := by decide +kernel
theorem dX9_removesFigure_180 : decode cX9_removesFigure 180 = .ok (.iload 4, 2) := by decide +kernel
theorem dX9_removesFigure_182 : decode cX9_removesFigure 182 = .ok (.imul, 1) := by decide +kernel
theorem dX9_removesFigure_183 : decode cX9_removesFigure 183 = .ok (.iadd, 1) := by decide +kernel
theorem dX9_removesFigure_184 : decode cX9_removesFigure 184 = .ok (.iaload, 1) := by decide +kernel
theorem dX9_removesFigure_185 : decode cX9_removesFigure 185 = .ok (.iload_n 1, 1) := by decide +kernel
theorem dX9_removesFigure_186 : decode cX9_removesFigure 186 = .ok (.if_icmp .le 7, 3) := by decide +kernel
theorem dX9_removesFigure_189 : decode cX9_removesFigure 189 = .ok (.iconst 1, 1) := by decide +kernel
theorem dX9_removesFigure_190 : decode cX9_removesFigure 190 = .ok (.goto 4, 3) := by decide +kernel
theorem dX9_removesFigure_193 : decode cX9_removesFigure 193 = .ok (.iconst 0, 1) := by decide +kernel
theorem dX9_removesFigure_194 : decode cX9_removesFigure 194 = .ok (.isub, 1) := by decide +kernel
theorem dX9_removesFigure_195 : decode cX9_removesFigure 195 = .ok (.iastore, 1) := by decide +kernel
theorem dX9_removesFigure_196 : decode cX9_removesFigure 196 = .ok (.iinc 4 1, 3) := by decide +kernel
theorem dX9_removesFigure_199 : decode cX9_removesFigure 199 = .ok (.goto (-52), 3) := by decide +kernel
theorem dX9_removesFigure_202 : decode cX9_removesFigure 202 = .ok (.aload_n 0, 1) := by decide +kernel
theorem dX9_removesFigure_203 : decode cX9_removesFigure 203 = .ok (.iload_n 2, 1) := by decide +kernel
theorem dX9_removesFigure_204 : decode cX9_removesFigure 204 = .ok (.invokevirtual 87, 3) := by decide +kernel
theorem dX9_removesFigure_207 : decode cX9_removesFigure 207 = .ok (.ireturn, 1) := by decide +kernel
theorem dX9_addsStep_0 : decode cX9_addsStep 0 = .ok (.aload_n 0, 1) := by decide +kernel
theorem dX9_addsStep_1 : decode cX9_addsStep 1 = .ok (.iload_n 1, 1) := by decide +kernel
theorem dX9_addsStep_2 : decode cX9_addsStep 2 = .ok (.invokevirtual 101, 3) := by decide +kernel
theorem dX9_addsStep_5 : decode cX9_addsStep 5 = .ok (.ifCond .eq 11, 3) := by decide +kernel
theorem dX9_addsStep_8 : decode cX9_addsStep 8 = .ok (.aload_n 0, 1) := by decide +kernel
theorem dX9_addsStep_9 : decode cX9_addsStep 9 = .ok (.iload_n 3, 1) := by decide +kernel
theorem dX9_addsStep_10 : decode cX9_addsStep 10 = .ok (.invokevirtual 90, 3) := by decide +kernel
theorem dX9_addsStep_13 : decode cX9_addsStep 13 = .ok (.ifCond .ne 5, 3) := by decide +kernel
theorem dX9_addsStep_16 : decode cX9_addsStep 16 = .ok (.iconst 1, 1) := by decide +kernel
theorem dX9_addsStep_17 : decode cX9_addsStep 17 = .ok (.ireturn, 1) := by decide +kernel
theorem dX9_addsStep_18 : decode cX9_addsStep 18 = .ok (.iload_n 2, 1) := by decide +kernel
theorem dX9_addsStep_19 : decode cX9_addsStep 19 = .ok (.iconst 0, 1) := by decide +kernel
theorem dX9_addsStep_20 : decode cX9_addsStep 20 = .ok (.bipush 20, 2) := by decide +kernel
theorem dX9_addsStep_22 : decode cX9_addsStep 22 = .ok (.invokestatic 57, 3) := by decide +kernel
theorem dX9_addsStep_25 : decode cX9_addsStep 25 = .ok (.ifCond .eq 14, 3) := by decide +kernel
theorem dX9_addsStep_28 : decode cX9_addsStep 28 = .ok (.iload 4, 2) := by decide +kernel
theorem dX9_addsStep_30 : decode cX9_addsStep 30 = .ok (.iconst 0, 1) := by decide +kernel
theorem dX9_addsStep_31 : decode cX9_addsStep 31 = .ok (.bipush 10, 2) := by decide +kernel
theorem dX9_addsStep_33 : decode cX9_addsStep 33 = .ok (.invokestatic 57, 3) := by decide +kernel
theorem dX9_addsStep_36 : decode cX9_addsStep 36 = .ok (.ifCond .ne 5, 3) := by decide +kernel
theorem dX9_addsStep_39 : decode cX9_addsStep 39 = .ok (.iconst 2, 1) := by decide +kernel
theorem dX9_addsStep_40 : decode cX9_addsStep 40 = .ok (.ireturn, 1) := by decide +kernel
theorem dX9_addsStep_41 : decode cX9_addsStep 41 = .ok (.aload_n 0, 1) := by decide +kernel
theorem dX9_addsStep_42 : decode cX9_addsStep 42 = .ok (.iload_n 1, 1) := by decide +kernel
theorem dX9_addsStep_43 : decode cX9_addsStep 43 = .ok (.invokevirtual 77, 3) := by decide +kernel
theorem dX9_addsStep_46 : decode cX9_addsStep 46 = .ok (.istore 5, 2) := by decide +kernel
theorem dX9_addsStep_48 : decode cX9_addsStep 48 = .ok (.iload 5, 2) := by decide +kernel
theorem dX9_addsStep_50 : decode cX9_addsStep 50 = .ok (.bipush 8, 2) := by decide +kernel
theorem dX9_addsStep_52 : decode cX9_addsStep 52 = .ok (.if_icmp .ne 5, 3) := by decide +kernel
theorem dX9_addsStep_55 : decode cX9_addsStep 55 = .ok (.iconst 3, 1) := by decide +kernel
theorem dX9_addsStep_56 : decode cX9_addsStep 56 = .ok (.ireturn, 1) := by decide +kernel
theorem dX9_addsStep_57 : decode cX9_addsStep 57 = .ok (.bipush 28, 2) := by decide +kernel
theorem dX9_addsStep_59 : decode cX9_addsStep 59 = .ok (.bipush 25, 2) := by decide +kernel
theorem dX9_addsStep_61 : decode cX9_addsStep 61 = .ok (.iload_n 1, 1) := by decide +kernel
theorem dX9_addsStep_62 : decode cX9_addsStep 62 = .ok (.imul, 1) := by decide +kernel
theorem dX9_addsStep_63 : decode cX9_addsStep 63 = .ok (.iadd, 1) := by decide +kernel
theorem dX9_addsStep_64 : decode cX9_addsStep 64 = .ok (.iconst 1, 1) := by decide +kernel
theorem dX9_addsStep_65 : decode cX9_addsStep 65 = .ok (.iadd, 1) := by decide +kernel
theorem dX9_addsStep_66 : decode cX9_addsStep 66 = .ok (.iconst 3, 1) := by decide +kernel
theorem dX9_addsStep_67 : decode cX9_addsStep 67 = .ok (.iload 5, 2) := by decide +kernel
theorem dX9_addsStep_69 : decode cX9_addsStep 69 = .ok (.imul, 1) := by decide +kernel
theorem dX9_addsStep_70 : decode cX9_addsStep 70 = .ok (.iadd, 1) := by decide +kernel
theorem dX9_addsStep_71 : decode cX9_addsStep 71 = .ok (.istore 6, 2) := by decide +kernel
theorem dX9_addsStep_73 : decode cX9_addsStep 73 = .ok (.aload_n 0, 1) := by decide +kernel
theorem dX9_addsStep_74 : decode cX9_addsStep 74 = .ok (.getfield 7, 3) := by decide +kernel
theorem dX9_addsStep_77 : decode cX9_addsStep 77 = .ok (.iload 6, 2) := by decide +kernel
theorem dX9_addsStep_79 : decode cX9_addsStep 79 = .ok (.iload_n 2, 1) := by decide +kernel
theorem dX9_addsStep_80 : decode cX9_addsStep 80 = .ok (.iastore, 1) := by decide +kernel
theorem dX9_addsStep_81 : decode cX9_addsStep 81 = .ok (.aload_n 0, 1) := by decide +kernel
theorem dX9_addsStep_82 : decode cX9_addsStep 82 = .ok (.getfield 7, 3) := by decide +kernel
theorem dX9_addsStep_85 : decode cX9_addsStep 85 = .ok (.iload 6, 2) := by decide +kernel
theorem dX9_addsStep_87 : decode cX9_addsStep 87 = .ok (.iconst 1, 1) := by decide +kernel
theorem dX9_addsStep_88 : decode cX9_addsStep 88 = .ok (.iadd, 1) := by decide +kernel
theorem dX9_addsStep_89 : decode cX9_addsStep 89 = .ok (.iload_n 3, 1) := by decide +kernel
theorem dX9_addsStep_90 : decode cX9_addsStep 90 = .ok (.iastore, 1) := by decide +kernel
theorem dX9_addsStep_91 : decode cX9_addsStep 91 = .ok (.aload_n 0, 1) := by decide +kernel
theorem dX9_addsStep_92 : decode cX9_addsStep 92 = .ok (.getfield 7, 3) := by decide +kernel
theorem dX9_addsStep_95 : decode cX9_addsStep 95 = .ok (.iload 6, 2) := by decide +kernel
theorem dX9_addsStep_97 : decode cX9_addsStep 97 = .ok (.iconst 2, 1) := by decide +kernel
theorem dX9_addsStep_98 : decode cX9_addsStep 98 = .ok (.iadd, 1) := by decide +kernel
theorem dX9_addsStep_99 : decode cX9_addsStep 99 = .ok (.iload 4, 2) := by decide +kernel
theorem dX9_addsStep_101 : decode cX9_addsStep 101 = .ok (.iastore, 1) := by decide +kernel
theorem dX9_addsStep_102 : decode cX9_addsStep 102 = .ok (.aload_n 0, 1) := by decide +kernel
theorem dX9_addsStep_103 : decode cX9_addsStep 103 = .ok (.getfield 7, 3) := by decide +kernel
theorem dX9_addsStep_106 : decode cX9_addsStep 106 = .ok (.bipush 28, 2) := by decide +kernel
theorem dX9_addsStep_108 : decode cX9_addsStep 108 = .ok (.bipush 25, 2) := by decide +kernel
theorem dX9_addsStep_110 : decode cX9_addsStep 110 = .ok (.iload_n 1, 1) := by decide +kernel
theorem dX9_addsStep_111 : decode cX9_addsStep 111 = .ok (.imul, 1) := by decide +kernel
theorem dX9_addsStep_112 : decode cX9_addsStep 112 = .ok (.iadd, 1) := by decide +kernel
theorem dX9_addsStep_113 : decode cX9_addsStep 113 = .ok (.iload 5, 2) := by decide +kernel
