theorem dX2_init_0 : decode cX2_init 0 = .ok (.aload_n 0, 1) := by decide +kernel
theorem dX2_init_1 : decode cX2_init 1 = .ok (.invokespecial 3, 3) := by decide +kernel
theorem dX2_init_4 : decode cX2_init 4 = .ok (.aload_n 0, 1) := by decide +kernel
theorem dX2_init_5 : decode cX2_init 5 = .ok (.iconst 5, 1) := by decide +kernel
theorem dX2_init_6 : decode cX2_init 6 = .ok (.newarray .int, 2) := by decide +kernel
theorem dX2_init_8 : decode cX2_init 8 = .ok (.putfield 9, 3) := by decide +kernel
theorem dX2_init_11 : decode cX2_init 11 = .ok (.aload_n 0, 1) := by decide +kernel
theorem dX2_init_12 : decode cX2_init 12 = .ok (.bipush 40, 2) := by decide +kernel
theorem dX2_init_14 : decode cX2_init 14 = .ok (.newarray .int, 2) := by decide +kernel
theorem dX2_init_16 : decode cX2_init 16 = .ok (.putfield 15, 3) := by decide +kernel
theorem dX2_init_19 : decode cX2_init 19 = .ok (.aload_n 0, 1) := by decide +kernel
theorem dX2_init_20 : decode cX2_init 20 = .ok (.bipush 40, 2) := by decide +kernel
theorem dX2_init_22 : decode cX2_init 22 = .ok (.newarray .int, 2) := by decide +kernel
theorem dX2_init_24 : decode cX2_init 24 = .ok (.putfield 18, 3) := by decide +kernel
theorem dX2_init_27 : decode cX2_init 27 = .ok (.aload_n 0, 1) := by decide +kernel
theorem dX2_init_28 : decode cX2_init 28 = .ok (.bipush 40, 2) := by decide +kernel
theorem dX2_init_30 : decode cX2_init 30 = .ok (.newarray .int, 2) := by decide +kernel
theorem dX2_init_32 : decode cX2_init 32 = .ok (.putfield 21, 3) := by decide +kernel
theorem dX2_init_35 : decode cX2_init 35 = .ok (.aload_n 0, 1) := by decide +kernel
theorem dX2_init_36 : decode cX2_init 36 = .ok (.iconst 0, 1) := by decide +kernel
theorem dX2_init_37 : decode cX2_init 37 = .ok (.putfield 24, 3) := by decide +kernel
theorem dX2_init_40 : decode cX2_init 40 = .ok (.return_, 1) := by decide +kernel
theorem dX2_copyFrom_0 : decode cX2_copyFrom 0 = .ok (.aload_n 1, 1) := by decide +kernel
theorem dX2_copyFrom_1 : decode cX2_copyFrom 1 = .ok (.getfield 9, 3) := by decide +kernel
theorem dX2_copyFrom_4 : decode cX2_copyFrom 4 = .ok (.iconst 0, 1) := by decide +kernel
theorem dX2_copyFrom_5 : decode cX2_copyFrom 5 = .ok (.aload_n 0, 1) := by decide +kernel
theorem dX2_copyFrom_6 : decode cX2_copyFrom 6 = .ok (.getfield 9, 3) := by decide +kernel
theorem dX2_copyFrom_9 : decode cX2_copyFrom 9 = .ok (.iconst 0, 1) := by decide +kernel
theorem dX2_copyFrom_10 : decode cX2_copyFrom 10 = .ok (.iconst 5, 1) := by decide +kernel
theorem dX2_copyFrom_11 : decode cX2_copyFrom 11 = .ok (.invokestatic 28, 3) := by decide +kernel
theorem dX2_copyFrom_14 : decode cX2_copyFrom 14 = .ok (.aload_n 1, 1) := by decide +kernel
theorem dX2_copyFrom_15 : decode cX2_copyFrom 15 = .ok (.getfield 15, 3) := by decide +kernel
theorem dX2_copyFrom_18 : decode cX2_copyFrom 18 = .ok (.iconst 0, 1) := by decide +kernel
theorem dX2_copyFrom_19 : decode cX2_copyFrom 19 = .ok (.aload_n 0, 1) := by decide +kernel
theorem dX2_copyFrom_20 : decode cX2_copyFrom 20 = .ok (.getfield 15, 3) := by decide +kernel
theorem dX2_copyFrom_23 : decode cX2_copyFrom 23 = .ok (.iconst 0, 1) := by decide +kernel
theorem dX2_copyFrom_24 : decode cX2_copyFrom 24 = .ok (.bipush 40, 2) := by decide +kernel
theorem dX2_copyFrom_26 : decode cX2_copyFrom 26 = .ok (.invokestatic 28, 3) := by decide +kernel
theorem dX2_copyFrom_29 : decode cX2_copyFrom 29 = .ok (.aload_n 1, 1) := by decide +kernel
theorem dX2_copyFrom_30 : decode cX2_copyFrom 30 = .ok (.getfield 18, 3) := by decide +kernel
theorem dX2_copyFrom_33 : decode cX2_copyFrom 33 = .ok (.iconst 0, 1) := by decide +kernel
theorem dX2_copyFrom_34 : decode cX2_copyFrom 34 = .ok (.aload_n 0, 1) := by decide +kernel
theorem dX2_copyFrom_35 : decode cX2_copyFrom 35 = .ok (.getfield 18, 3) := by decide +kernel
theorem dX2_copyFrom_38 : decode cX2_copyFrom 38 = .ok (.iconst 0, 1) := by decide +kernel
theorem dX2_copyFrom_39 : decode cX2_copyFrom 39 = .ok (.bipush 40, 2) := by decide +kernel
theorem dX2_copyFrom_41 : decode cX2_copyFrom 41 = .ok (.invokestatic 28, 3) := by decide +kernel
theorem dX2_copyFrom_44 : decode cX2_copyFrom 44 = .ok (.aload_n 1, 1) := by decide +kernel
theorem dX2_copyFrom_45 : decode cX2_copyFrom 45 = .ok (.getfield 21, 3) := by decide +kernel
theorem dX2_copyFrom_48 : decode cX2_copyFrom 48 = .ok (.iconst 0, 1) := by decide +kernel
theorem dX2_copyFrom_49 : decode cX2_copyFrom 49 = .ok (.aload_n 0, 1) := by decide +kernel
theorem dX2_copyFrom_50 : decode cX2_copyFrom 50 = .ok (.getfield 21, 3) := by decide +kernel
theorem dX2_copyFrom_53 : decode cX2_copyFrom 53 = .ok (.iconst 0, 1) := by decide +kernel
theorem dX2_copyFrom_54 : decode cX2_copyFrom 54 = .ok (.bipush 40, 2) := by decide +kernel
theorem dX2_copyFrom_56 : decode cX2_copyFrom 56 = .ok (.invokestatic 28, 3) := by decide +kernel
theorem dX2_copyFrom_59 : decode cX2_copyFrom 59 = .ok (.aload_n 0, 1) := by decide +kernel
theorem dX2_copyFrom_60 : decode cX2_copyFrom 60 = .ok (.aload_n 1, 1) := by decide +kernel
theorem dX2_copyFrom_61 : decode cX2_copyFrom 61 = .ok (.getfield 24, 3) := by decide +kernel
theorem dX2_copyFrom_64 : decode cX2_copyFrom 64 = .ok (.putfield 24, 3) := by decide +kernel
theorem dX2_copyFrom_67 : decode cX2_copyFrom 67 = .ok (.return_, 1) := by decide +kernel
theorem dX2_has_0 : decode cX2_has 0 = .ok (.iload_n 1, 1) := by decide +kernel
theorem dX2_has_1 : decode cX2_has 1 = .ok (.ifCond .lt 15, 3) := by decide +kernel
theorem dX2_has_4 : decode cX2_has 4 = .ok (.iload_n 1, 1) := by decide +kernel
theorem dX2_has_5 : decode cX2_has 5 = .ok (.aload_n 0, 1) := by decide +kernel
theorem dX2_has_6 : decode cX2_has 6 = .ok (.getfield 24, 3) := by decide +kernel
theorem dX2_has_9 : decode cX2_has 9 = .ok (.if_icmp .ge 7, 3) := by decide +kernel
theorem dX2_has_12 : decode cX2_has 12 = .ok (.iconst 1, 1) := by decide +kernel
theorem dX2_has_13 : decode cX2_has 13 = .ok (.goto 4, 3) := by decide +kernel
theorem dX2_has_16 : decode cX2_has 16 = .ok (.iconst 0, 1) := by decide +kernel
theorem dX2_has_17 : decode cX2_has 17 = .ok (.ireturn, 1) := by decide +kernel
theorem dX2_hasStep_0 : decode cX2_hasStep 0 = .ok (.aload_n 0, 1) := by decide +kernel
theorem dX2_hasStep_1 : decode cX2_hasStep 1 = .ok (.iload_n 1, 1) := by decide +kernel
theorem dX2_hasStep_2 : decode cX2_hasStep 2 = .ok (.invokevirtual 34, 3) := by decide +kernel
theorem dX2_hasStep_5 : decode cX2_hasStep 5 = .ok (.ifCond .eq 21, 3) := by decide +kernel
theorem dX2_hasStep_8 : decode cX2_hasStep 8 = .ok (.iload_n 2, 1) := by decide +kernel
theorem dX2_hasStep_9 : decode cX2_hasStep 9 = .ok (.ifCond .lt 17, 3) := by decide +kernel
theorem dX2_hasStep_12 : decode cX2_hasStep 12 = .ok (.iload_n 2, 1) := by decide +kernel
theorem dX2_hasStep_13 : decode cX2_hasStep 13 = .ok (.aload_n 0, 1) := by decide +kernel
theorem dX2_hasStep_14 : decode cX2_hasStep 14 = .ok (.getfield 9, 3) := by decide +kernel
theorem dX2_hasStep_17 : decode cX2_hasStep 17 = .ok (.iload_n 1, 1) := by decide +kernel
theorem dX2_hasStep_18 : decode cX2_hasStep 18 = .ok (.iaload, 1) := by decide +kernel
theorem dX2_hasStep_19 : decode cX2_hasStep 19 = .ok (.if_icmp .ge 7, 3) := by decide +kernel
theorem dX2_hasStep_22 : decode cX2_hasStep 22 = .ok (.iconst 1, 1) := by decide +kernel
theorem dX2_hasStep_23 : decode cX2_hasStep 23 = .ok (.goto 4, 3) := by decide +kernel
theorem dX2_hasStep_26 : decode cX2_hasStep 26 = .ok (.iconst 0, 1) := by decide +kernel
theorem dX2_hasStep_27 : decode cX2_hasStep 27 = .ok (.ireturn, 1) := by decide +kernel
theorem dX2_problemOfAdding_0 : decode cX2_problemOfAdding 0 = .ok (.aload_n 0, 1) := by decide +kernel
theorem dX2_problemOfAdding_1 : decode cX2_problemOfAdding 1 = .ok (.getfield 24, 3) := by decide +kernel
theorem dX2_problemOfAdding_4 : decode cX2_problemOfAdding 4 = .ok (.iconst 5, 1) := by decide +kernel
theorem dX2_problemOfAdding_5 : decode cX2_problemOfAdding 5 = .ok (.if_icmp .ge 9, 3) := by decide +kernel
theorem dX2_problemOfAdding_8 : decode cX2_problemOfAdding 8 = .ok (.getstatic 38, 3) := by decide +kernel
theorem dX2_problemOfAdding_11 : decode cX2_problemOfAdding 11 = .ok (.goto 6, 3) := by decide +kernel
theorem dX2_problemOfAdding_14 : decode cX2_problemOfAdding 14 = .ok (.getstatic 44, 3) := by decide +kernel
theorem dX2_problemOfAdding_17 : decode cX2_problemOfAdding 17 = .ok (.areturn, 1) := by decide +kernel
theorem dX2_append_0 : decode cX2_append 0 = .ok (.aload_n 0, 1) := by decide +kernel
theorem dX2_append_1 : decode cX2_append 1 = .ok (.getfield 9, 3) := by decide +kernel
theorem dX2_append_4 : decode cX2_append 4 = .ok (.aload_n 0, 1) := by decide +kernel
theorem dX2_append_5 : decode cX2_append 5 = .ok (.getfield 24, 3) := by decide +kernel
theorem dX2_append_8 : decode cX2_append 8 = .ok (.iconst 0, 1) := by decide +kernel
theorem dX2_append_9 : decode cX2_append 9 = .ok (.iastore, 1) := by decide +kernel
theorem dX2_append_10 : decode cX2_append 10 = .ok (.aload_n 0, 1) := by decide +kernel
theorem dX2_append_11 : decode cX2_append 11 = .ok (.dup, 1) := by decide +kernel
theorem dX2_append_12 : decode cX2_append 12 = .ok (.getfield 24, 3) := by decide +kernel
theorem dX2_append_15 : decode cX2_append 15 = .ok (.iconst 1, 1) := by decide +kernel
theorem dX2_append_16 : decode cX2_append 16 = .ok (.iadd, 1) := by decide +kernel
theorem dX2_append_17 : decode cX2_append 17 = .ok (.putfield 24, 3) := by decide +kernel
theorem dX2_append_20 : decode cX2_append 20 = .ok (.aload_n 0, 1) := by decide +kernel
theorem dX2_append_21 : decode cX2_append 21 = .ok (.getfield 24, 3) := by decide +kernel
theorem dX2_append_24 : decode cX2_append 24 = .ok (.iconst 1, 1) := by decide +kernel
theorem dX2_append_25 : decode cX2_append 25 = .ok (.isub, 1) := by decide +kernel
theorem dX2_append_26 : decode cX2_append 26 = .ok (.ireturn, 1) := by decide +kernel
theorem dX2_drop_0 : decode cX2_drop 0 = .ok (.aload_n 0, 1) := by decide +kernel
theorem dX2_drop_1 : decode cX2_drop 1 = .ok (.getfield 9, 3) := by decide +kernel
theorem dX2_drop_4 : decode cX2_drop 4 = .ok (.iload_n 1, 1) := by decide +kernel
theorem dX2_drop_5 : decode cX2_drop 5 = .ok (.iaload, 1) := by decide +kernel
theorem dX2_drop_6 : decode cX2_drop 6 = .ok (.istore_n 2, 1) := by decide +kernel
theorem dX2_drop_7 : decode cX2_drop 7 = .ok (.aload_n 0, 1) := by decide +kernel
theorem dX2_drop_8 : decode cX2_drop 8 = .ok (.dup, 1) := by decide +kernel
theorem dX2_drop_9 : decode cX2_drop 9 = .ok (.getfield 24, 3) := by decide +kernel
theorem dX2_drop_12 : decode cX2_drop 12 = .ok (.iconst 1, 1) := by decide +kernel
theorem dX2_drop_13 : decode cX2_drop 13 = .ok (.isub, 1) := by decide +kernel
theorem dX2_drop_14 : decode cX2_drop 14 = .ok (.putfield 24, 3) := by decide +kernel
theorem dX2_drop_17 : decode cX2_drop 17 = .ok (.iload_n 1, 1) := by decide +kernel
theorem dX2_drop_18 : decode cX2_drop 18 = .ok (.istore_n 3, 1) := by decide +kernel
theorem dX2_drop_19 : decode cX2_drop 19 = .ok (.iload_n 3, 1) := by decide +kernel
theorem dX2_drop_20 : decode cX2_drop 20 = .ok (.aload_n 0, 1) := by decide +kernel
theorem dX2_drop_21 : decode cX2_drop 21 = .ok (.getfield 24, 3) := by decide +kernel
theorem dX2_drop_24 : decode cX2_drop 24 = .ok (.if_icmp .ge 23, 3) := by decide +kernel
theorem dX2_drop_27 : decode cX2_drop 27 = .ok (.aload_n 0, 1) := by decide +kernel
theorem dX2_drop_28 : decode cX2_drop 28 = .ok (.getfield 9, 3) := by decide +kernel
theorem dX2_drop_31 : decode cX2_drop 31 = .ok (.iload_n 3, 1) := by decide +kernel
theorem dX2_drop_32 : decode cX2_drop 32 = .ok (.aload_n 0, 1) := by decide +kernel
theorem dX2_drop_33 : decode cX2_drop 33 = .ok (.getfield 9, 3) := by decide +kernel
theorem dX2_drop_36 : decode cX2_drop 36 = .ok (.iload_n 3, 1) := by decide +kernel
theorem dX2_drop_37 : decode cX2_drop 37 = .ok (.iconst 1, 1) := by decide +kernel
theorem dX2_drop_38 : decode cX2_drop 38 = .ok (.iadd, 1) := by decide +kernel
theorem dX2_drop_39 : decode cX2_drop 39 = .ok (.iaload, 1) := by decide +kernel
theorem dX2_drop_40 : decode cX2_drop 40 = .ok (.iastore, 1) := by decide +kernel
theorem dX2_drop_41 : decode cX2_drop 41 = .ok (.iinc 3 1, 3) := by decide +kernel
theorem dX2_drop_44 : decode cX2_drop 44 = .ok (.goto (-25), 3) := by decide +kernel
theorem dX2_drop_47 : decode cX2_drop 47 = .ok (.iload_n 1, 1) := by decide +kernel
theorem dX2_drop_48 : decode cX2_drop 48 = .ok (.iconst 0, 1) := by decide +kernel
theorem dX2_drop_49 : decode cX2_drop 49 = .ok (.invokestatic 47, 3) := by decide +kernel
theorem dX2_drop_52 : decode cX2_drop 52 = .ok (.istore_n 3, 1) := by decide +kernel
theorem dX2_drop_53 : decode cX2_drop 53 = .ok (.iload_n 3, 1) := by decide +kernel
theorem dX2_drop_54 : decode cX2_drop 54 = .ok (.aload_n 0, 1) := by decide +kernel
theorem dX2_drop_55 : decode cX2_drop 55 = .ok (.getfield 24, 3) := by decide +kernel
theorem dX2_drop_58 : decode cX2_drop 58 = .ok (.iconst 0, 1) := by decide +kernel
theorem dX2_drop_59 : decode cX2_drop 59 = .ok (.invokestatic 47, 3) := by decide +kernel
theorem dX2_drop_62 : decode cX2_drop 62 = .ok (.if_icmp .ge 18, 3) := by decide +kernel
theorem dX2_drop_65 : decode cX2_drop 65 = .ok (.aload_n 0, 1) := by decide +kernel
theorem dX2_drop_66 : decode cX2_drop 66 = .ok (.iload_n 3, 1) := by decide +kernel
theorem dX2_drop_67 : decode cX2_drop 67 = .ok (.bipush 8, 2) := by decide +kernel
theorem dX2_drop_69 : decode cX2_drop 69 = .ok (.iadd, 1) := by decide +kernel
theorem dX2_drop_70 : decode cX2_drop 70 = .ok (.iload_n 3, 1) := by decide +kernel
theorem dX2_drop_71 : decode cX2_drop 71 = .ok (.invokevirtual 51, 3) := by decide +kernel
theorem dX2_drop_74 : decode cX2_drop 74 = .ok (.iinc 3 1, 3) := by decide +kernel
theorem dX2_drop_77 : decode cX2_drop 77 = .ok (.goto (-24), 3) := by decide +kernel
theorem dX2_drop_80 : decode cX2_drop 80 = .ok (.iload_n 2, 1) := by decide +kernel
theorem dX2_drop_81 : decode cX2_drop 81 = .ok (.ireturn, 1) := by decide +kernel
theorem dX2_moveStep_0 : decode cX2_moveStep 0 = .ok (.aload_n 0, 1) := by decide +kernel
theorem dX2_moveStep_1 : decode cX2_moveStep 1 = .ok (.getfield 15, 3) := by decide +kernel
theorem dX2_moveStep_4 : decode cX2_moveStep 4 = .ok (.iload_n 2, 1) := by decide +kernel
theorem dX2_moveStep_5 : decode cX2_moveStep 5 = .ok (.aload_n 0, 1) := by decide +kernel
theorem dX2_moveStep_6 : decode cX2_moveStep 6 = .ok (.getfield 15, 3) := by decide +kernel
theorem dX2_moveStep_9 : decode cX2_moveStep 9 = .ok (.iload_n 1, 1) := by decide +kernel
theorem dX2_moveStep_10 : decode cX2_moveStep 10 = .ok (.iaload, 1) := by decide +kernel
theorem dX2_moveStep_11 : decode cX2_moveStep 11 = .ok (.iastore, 1) := by decide +kernel
theorem dX2_moveStep_12 : decode cX2_moveStep 12 = .ok (.aload_n 0, 1) := by decide +kernel
theorem dX2_moveStep_13 : decode cX2_moveStep 13 = .ok (.getfield 18, 3) := by decide +kernel
theorem dX2_moveStep_16 : decode cX2_moveStep 16 = .ok (.iload_n 2, 1) := by decide +kernel
theorem dX2_moveStep_17 : decode cX2_moveStep 17 = .ok (.aload_n 0, 1) := by decide +kernel
theorem dX2_moveStep_18 : decode cX2_moveStep 18 = .ok (.getfield 18, 3) := by decide +kernel
theorem dX2_moveStep_21 : decode cX2_moveStep 21 = .ok (.iload_n 1, 1) := by decide +kernel
theorem dX2_moveStep_22 : decode cX2_moveStep 22 = .ok (.iaload, 1) := by decide +kernel
theorem dX2_moveStep_23 : decode cX2_moveStep 23 = .ok (.iastore, 1) := by decide +kernel
theorem dX2_moveStep_24 : decode cX2_moveStep 24 = .ok (.aload_n 0, 1) := by decide +kernel
theorem dX2_moveStep_25 : decode cX2_moveStep 25 = .ok (.getfield 21, 3) := by decide +kernel
theorem dX2_moveStep_28 : decode cX2_moveStep 28 = .ok (.iload_n 2, 1) := by decide +kernel
theorem dX2_moveStep_29 : decode cX2_moveStep 29 = .ok (.aload_n 0, 1) := by decide +kernel
theorem dX2_moveStep_30 : decode cX2_moveStep 30 = .ok (.getfield 21, 3) := by decide +kernel
theorem dX2_moveStep_33 : decode cX2_moveStep 33 = .ok (.iload_n 1, 1) := by decide +kernel
theorem dX2_moveStep_34 : decode cX2_moveStep 34 = .ok (.iaload, 1) := by decide +kernel
theorem dX2_moveStep_35 : decode cX2_moveStep 35 = .ok (.iastore, 1) := by decide +kernel
theorem dX2_moveStep_36 : decode cX2_moveStep 36 = .ok (.return_, 1) := by decide +kernel
theorem dX2_appendStep_0 : decode cX2_appendStep 0 = .ok (.iload_n 1, 1) := by decide +kernel
theorem dX2_appendStep_1 : decode cX2_appendStep 1 = .ok (.aload_n 0, 1) := by decide +kernel
theorem dX2_appendStep_2 : decode cX2_appendStep 2 = .ok (.getfield 9, 3) := by decide +kernel
theorem dX2_appendStep_5 : decode cX2_appendStep 5 = .ok (.iload_n 1, 1) := by decide +kernel
theorem dX2_appendStep_6 : decode cX2_appendStep 6 = .ok (.iaload, 1) := by decide +kernel
theorem dX2_appendStep_7 : decode cX2_appendStep 7 = .ok (.invokestatic 47, 3) := by decide +kernel
theorem dX2_appendStep_10 : decode cX2_appendStep 10 = .ok (.istore 5, 2) := by decide +kernel
theorem dX2_appendStep_12 : decode cX2_appendStep 12 = .ok (.aload_n 0, 1) := by decide +kernel
theorem dX2_appendStep_13 : decode cX2_appendStep 13 = .ok (.getfield 15, 3) := by decide +kernel
theorem dX2_appendStep_16 : decode cX2_appendStep 16 = .ok (.iload 5, 2) := by decide +kernel
theorem dX2_appendStep_18 : decode cX2_appendStep 18 = .ok (.iload_n 2, 1) := by decide +kernel
theorem dX2_appendStep_19 : decode cX2_appendStep 19 = .ok (.iastore, 1) := by decide +kernel
theorem dX2_appendStep_20 : decode cX2_appendStep 20 = .ok (.aload_n 0, 1) := by decide +kernel
theorem dX2_appendStep_21 : decode cX2_appendStep 21 = .ok (.getfield 18, 3) := by decide +kernel
theorem dX2_appendStep_24 : decode cX2_appendStep 24 = .ok (.iload 5, 2) := by decide +kernel
theorem dX2_appendStep_26 : decode cX2_appendStep 26 = .ok (.iload_n 3, 1) := by decide +kernel
theorem dX2_appendStep_27 : decode cX2_appendStep 27 = .ok (.iastore, 1) := by decide +kernel
theorem dX2_appendStep_28 : decode cX2_appendStep 28 = .ok (.aload_n 0, 1) := by decide +kernel
theorem dX2_appendStep_29 : decode cX2_appendStep 29 = .ok (.getfield 21, 3) := by decide +kernel
theorem dX2_appendStep_32 : decode cX2_appendStep 32 = .ok (.iload 5, 2) := by decide +kernel
theorem dX2_appendStep_34 : decode cX2_appendStep 34 = .ok (.iload 4, 2) := by decide +kernel
theorem dX2_appendStep_36 : decode cX2_appendStep 36 = .ok (.iastore, 1) := by decide +kernel
theorem dX2_appendStep_37 : decode cX2_appendStep 37 = .ok (.aload_n 0, 1) := by decide +kernel
theorem dX2_appendStep_38 : decode cX2_appendStep 38 = .ok (.getfield 9, 3) := by decide +kernel
theorem dX2_appendStep_41 : decode cX2_appendStep 41 = .ok (.iload_n 1, 1) := by decide +kernel
theorem dX2_appendStep_42 : decode cX2_appendStep 42 = .ok (.dup2, 1) := by decide +kernel
theorem dX2_appendStep_43 : decode cX2_appendStep 43 = .ok (.iaload, 1) := by decide +kernel
theorem dX2_appendStep_44 : decode cX2_appendStep 44 = .ok (.iconst 1, 1) := by decide +kernel
theorem dX2_appendStep_45 : decode cX2_appendStep 45 = .ok (.iadd, 1) := by decide +kernel
theorem dX2_appendStep_46 : decode cX2_appendStep 46 = .ok (.iastore, 1) := by decide +kernel
theorem dX2_appendStep_47 : decode cX2_appendStep 47 = .ok (.aload_n 0, 1) := by decide +kernel
theorem dX2_appendStep_48 : decode cX2_appendStep 48 = .ok (.getfield 9, 3) := by decide +kernel
theorem dX2_appendStep_51 : decode cX2_appendStep 51 = .ok (.iload_n 1, 1) := by decide +kernel
theorem dX2_appendStep_52 : decode cX2_appendStep 52 = .ok (.iaload, 1) := by decide +kernel
theorem dX2_appendStep_53 : decode cX2_appendStep 53 = .ok (.ireturn, 1) := by decide +kernel
theorem dX2_dropStep_0 : decode cX2_dropStep 0 = .ok (.aload_n 0, 1) := by decide +kernel
theorem dX2_dropStep_1 : decode cX2_dropStep 1 = .ok (.getfield 9, 3) := by decide +kernel
theorem dX2_dropStep_4 : decode cX2_dropStep 4 = .ok (.iload_n 1, 1) := by decide +kernel
theorem dX2_dropStep_5 : decode cX2_dropStep 5 = .ok (.dup2, 1) := by decide +kernel
theorem dX2_dropStep_6 : decode cX2_dropStep 6 = .ok (.iaload, 1) := by decide +kernel
theorem dX2_dropStep_7 : decode cX2_dropStep 7 = .ok (.iconst 1, 1) := by decide +kernel
theorem dX2_dropStep_8 : decode cX2_dropStep 8 = .ok (.isub, 1) := by decide +kernel
theorem dX2_dropStep_9 : decode cX2_dropStep 9 = .ok (.iastore, 1) := by decide +kernel
theorem dX2_dropStep_10 : decode cX2_dropStep 10 = .ok (.iload_n 2, 1) := by decide +kernel
theorem dX2_dropStep_11 : decode cX2_dropStep 11 = .ok (.istore_n 3, 1) := by decide +kernel
theorem dX2_dropStep_12 : decode cX2_dropStep 12 = .ok (.iload_n 3, 1) := by decide +kernel
theorem dX2_dropStep_13 : decode cX2_dropStep 13 = .ok (.aload_n 0, 1) := by decide +kernel
theorem dX2_dropStep_14 : decode cX2_dropStep 14 = .ok (.getfield 9, 3) := by decide +kernel
theorem dX2_dropStep_17 : decode cX2_dropStep 17 = .ok (.iload_n 1, 1) := by decide +kernel
theorem dX2_dropStep_18 : decode cX2_dropStep 18 = .ok (.iaload, 1) := by decide +kernel
theorem dX2_dropStep_19 : decode cX2_dropStep 19 = .ok (.if_icmp .ge 25, 3) := by decide +kernel
theorem dX2_dropStep_22 : decode cX2_dropStep 22 = .ok (.aload_n 0, 1) := by decide +kernel
theorem dX2_dropStep_23 : decode cX2_dropStep 23 = .ok (.iload_n 1, 1) := by decide +kernel
theorem dX2_dropStep_24 : decode cX2_dropStep 24 = .ok (.iload_n 3, 1) := by decide +kernel
theorem dX2_dropStep_25 : decode cX2_dropStep 25 = .ok (.iconst 1, 1) := by decide +kernel
theorem dX2_dropStep_26 : decode cX2_dropStep 26 = .ok (.iadd, 1) := by decide +kernel
theorem dX2_dropStep_27 : decode cX2_dropStep 27 = .ok (.invokestatic 47, 3) := by decide +kernel
theorem dX2_dropStep_30 : decode cX2_dropStep 30 = .ok (.iload_n 1, 1) := by decide +kernel
theorem dX2_dropStep_31 : decode cX2_dropStep 31 = .ok (.iload_n 3, 1) := by decide +kernel
theorem dX2_dropStep_32 : decode cX2_dropStep 32 = .ok (.invokestatic 47, 3) := by decide +kernel
theorem dX2_dropStep_35 : decode cX2_dropStep 35 = .ok (.invokevirtual 51, 3) := by decide +kernel
theorem dX2_dropStep_38 : decode cX2_dropStep 38 = .ok (.iinc 3 1, 3) := by decide +kernel
theorem dX2_dropStep_41 : decode cX2_dropStep 41 = .ok (.goto (-29), 3) := by decide +kernel
theorem dX2_dropStep_44 : decode cX2_dropStep 44 = .ok (.aload_n 0, 1) := by decide +kernel
theorem dX2_dropStep_45 : decode cX2_dropStep 45 = .ok (.getfield 9, 3) := by decide +kernel
theorem dX2_dropStep_48 : decode cX2_dropStep 48 = .ok (.iload_n 1, 1) := by decide +kernel
theorem dX2_dropStep_49 : decode cX2_dropStep 49 = .ok (.iaload, 1) := by decide +kernel
theorem dX2_dropStep_50 : decode cX2_dropStep 50 = .ok (.ireturn, 1) := by decide +kernel
theorem dX2_lengthOf_0 : decode cX2_lengthOf 0 = .ok (.iconst 0, 1) := by decide +kernel
theorem dX2_lengthOf_1 : decode cX2_lengthOf 1 = .ok (.istore_n 2, 1) := by decide +kernel
theorem dX2_lengthOf_2 : decode cX2_lengthOf 2 = .ok (.iconst 0, 1) := by decide +kernel
theorem dX2_lengthOf_3 : decode cX2_lengthOf 3 = .ok (.istore_n 3, 1) := by decide +kernel
theorem dX2_lengthOf_4 : decode cX2_lengthOf 4 = .ok (.iload_n 3, 1) := by decide +kernel
theorem dX2_lengthOf_5 : decode cX2_lengthOf 5 = .ok (.aload_n 0, 1) := by decide +kernel
theorem dX2_lengthOf_6 : decode cX2_lengthOf 6 = .ok (.getfield 9, 3) := by decide +kernel
theorem dX2_lengthOf_9 : decode cX2_lengthOf 9 = .ok (.iload_n 1, 1) := by decide +kernel
theorem dX2_lengthOf_10 : decode cX2_lengthOf 10 = .ok (.iaload, 1) := by decide +kernel
theorem dX2_lengthOf_11 : decode cX2_lengthOf 11 = .ok (.if_icmp .ge 35, 3) := by decide +kernel
theorem dX2_lengthOf_14 : decode cX2_lengthOf 14 = .ok (.aload_n 0, 1) := by decide +kernel
theorem dX2_lengthOf_15 : decode cX2_lengthOf 15 = .ok (.getfield 15, 3) := by decide +kernel
theorem dX2_lengthOf_18 : decode cX2_lengthOf 18 = .ok (.iload_n 1, 1) := by decide +kernel
theorem dX2_lengthOf_19 : decode cX2_lengthOf 19 = .ok (.bipush 8, 2) := by decide +kernel
theorem dX2_lengthOf_21 : decode cX2_lengthOf 21 = .ok (.imul, 1) := by decide +kernel
theorem dX2_lengthOf_22 : decode cX2_lengthOf 22 = .ok (.iload_n 3, 1) := by decide +kernel
theorem dX2_lengthOf_23 : decode cX2_lengthOf 23 = .ok (.iadd, 1) := by decide +kernel
theorem dX2_lengthOf_24 : decode cX2_lengthOf 24 = .ok (.iaload, 1) := by decide +kernel
theorem dX2_lengthOf_25 : decode cX2_lengthOf 25 = .ok (.istore 4, 2) := by decide +kernel
theorem dX2_lengthOf_27 : decode cX2_lengthOf 27 = .ok (.iload 4, 2) := by decide +kernel
theorem dX2_lengthOf_29 : decode cX2_lengthOf 29 = .ok (.iload_n 2, 1) := by decide +kernel
theorem dX2_lengthOf_30 : decode cX2_lengthOf 30 = .ok (.if_icmp .le 8, 3) := by decide +kernel
theorem dX2_lengthOf_33 : decode cX2_lengthOf 33 = .ok (.iload 4, 2) := by decide +kernel
theorem dX2_lengthOf_35 : decode cX2_lengthOf 35 = .ok (.goto 4, 3) := by decide +kernel
theorem dX2_lengthOf_38 : decode cX2_lengthOf 38 = .ok (.iload_n 2, 1) := by decide +kernel
theorem dX2_lengthOf_39 : decode cX2_lengthOf 39 = .ok (.istore_n 2, 1) := by decide +kernel
theorem dX2_lengthOf_40 : decode cX2_lengthOf 40 = .ok (.iinc 3 1, 3) := by decide +kernel
theorem dX2_lengthOf_43 : decode cX2_lengthOf 43 = .ok (.goto (-39), 3) := by decide +kernel
theorem dX2_lengthOf_46 : decode cX2_lengthOf 46 = .ok (.iload_n 2, 1) := by decide +kernel
theorem dX2_lengthOf_47 : decode cX2_lengthOf 47 = .ok (.ireturn, 1) := by decide +kernel
theorem dX2_countUsing_0 : decode cX2_countUsing 0 = .ok (.iconst 0, 1) := by decide +kernel
theorem dX2_countUsing_1 : decode cX2_countUsing 1 = .ok (.istore_n 2, 1) := by decide +kernel
theorem dX2_countUsing_2 : decode cX2_countUsing 2 = .ok (.iconst 0, 1) := by decide +kernel
theorem dX2_countUsing_3 : decode cX2_countUsing 3 = .ok (.istore_n 3, 1) := by decide +kernel
theorem dX2_countUsing_4 : decode cX2_countUsing 4 = .ok (.iload_n 3, 1) := by decide +kernel
theorem dX2_countUsing_5 : decode cX2_countUsing 5 = .ok (.aload_n 0, 1) := by decide +kernel
theorem dX2_countUsing_6 : decode cX2_countUsing 6 = .ok (.getfield 24, 3) := by decide +kernel
theorem dX2_countUsing_9 : decode cX2_countUsing 9 = .ok (.if_icmp .ge 21, 3) := by decide +kernel
theorem dX2_countUsing_12 : decode cX2_countUsing 12 = .ok (.aload_n 0, 1) := by decide +kernel
theorem dX2_countUsing_13 : decode cX2_countUsing 13 = .ok (.iload_n 3, 1) := by decide +kernel
theorem dX2_countUsing_14 : decode cX2_countUsing 14 = .ok (.iload_n 1, 1) := by decide +kernel
theorem dX2_countUsing_15 : decode cX2_countUsing 15 = .ok (.invokevirtual 55, 3) := by decide +kernel
theorem dX2_countUsing_18 : decode cX2_countUsing 18 = .ok (.ifCond .eq 6, 3) := by decide +kernel
theorem dX2_countUsing_21 : decode cX2_countUsing 21 = .ok (.iinc 2 1, 3) := by decide +kernel
theorem dX2_countUsing_24 : decode cX2_countUsing 24 = .ok (.iinc 3 1, 3) := by decide +kernel
theorem dX2_countUsing_27 : decode cX2_countUsing 27 = .ok (.goto (-23), 3) := by decide +kernel
theorem dX2_countUsing_30 : decode cX2_countUsing 30 = .ok (.iload_n 2, 1) := by decide +kernel
theorem dX2_countUsing_31 : decode cX2_countUsing 31 = .ok (.ireturn, 1) := by decide +kernel
theorem dX2_uses_0 : decode cX2_uses 0 = .ok (.iconst 0, 1) := by decide +kernel
theorem dX2_uses_1 : decode cX2_uses 1 = .ok (.istore_n 3, 1) := by decide +kernel
theorem dX2_uses_2 : decode cX2_uses 2 = .ok (.iload_n 3, 1) := by decide +kernel
theorem dX2_uses_3 : decode cX2_uses 3 = .ok (.aload_n 0, 1) := by decide +kernel
theorem dX2_uses_4 : decode cX2_uses 4 = .ok (.getfield 9, 3) := by decide +kernel
theorem dX2_uses_7 : decode cX2_uses 7 = .ok (.iload_n 1, 1) := by decide +kernel
theorem dX2_uses_8 : decode cX2_uses 8 = .ok (.iaload, 1) := by decide +kernel
theorem dX2_uses_9 : decode cX2_uses 9 = .ok (.if_icmp .ge 25, 3) := by decide +kernel
theorem dX2_uses_12 : decode cX2_uses 12 = .ok (.aload_n 0, 1) := by decide +kernel
theorem dX2_uses_13 : decode cX2_uses 13 = .ok (.getfield 18, 3) := by decide +kernel
theorem dX2_uses_16 : decode cX2_uses 16 = .ok (.iload_n 1, 1) := by decide +kernel
theorem dX2_uses_17 : decode cX2_uses 17 = .ok (.iload_n 3, 1) := by decide +kernel
theorem dX2_uses_18 : decode cX2_uses 18 = .ok (.invokestatic 47, 3) := by decide +kernel
theorem dX2_uses_21 : decode cX2_uses 21 = .ok (.iaload, 1) := by decide +kernel
theorem dX2_uses_22 : decode cX2_uses 22 = .ok (.iload_n 2, 1) := by decide +kernel
theorem dX2_uses_23 : decode cX2_uses 23 = .ok (.if_icmp .ne 5, 3) := by decide +kernel
theorem dX2_uses_26 : decode cX2_uses 26 = .ok (.iconst 1, 1) := by decide +kernel
theorem dX2_uses_27 : decode cX2_uses 27 = .ok (.ireturn, 1) := by decide +kernel
theorem dX2_uses_28 : decode cX2_uses 28 = .ok (.iinc 3 1, 3) := by decide +kernel
theorem dX2_uses_31 : decode cX2_uses 31 = .ok (.goto (-29), 3) := by decide +kernel
theorem dX2_uses_34 : decode cX2_uses 34 = .ok (.iconst 0, 1) := by decide +kernel
theorem dX2_uses_35 : decode cX2_uses 35 = .ok (.ireturn, 1) := by decide +kernel
theorem dX2_forgetJet_0 : decode cX2_forgetJet 0 = .ok (.iconst 0, 1) := by decide +kernel
theorem dX2_forgetJet_1 : decode cX2_forgetJet 1 = .ok (.istore_n 2, 1) := by decide +kernel
theorem dX2_forgetJet_2 : decode cX2_forgetJet 2 = .ok (.iconst 0, 1) := by decide +kernel
theorem dX2_forgetJet_3 : decode cX2_forgetJet 3 = .ok (.istore_n 3, 1) := by decide +kernel
theorem dX2_forgetJet_4 : decode cX2_forgetJet 4 = .ok (.iload_n 3, 1) := by decide +kernel
theorem dX2_forgetJet_5 : decode cX2_forgetJet 5 = .ok (.aload_n 0, 1) := by decide +kernel
theorem dX2_forgetJet_6 : decode cX2_forgetJet 6 = .ok (.getfield 24, 3) := by decide +kernel
theorem dX2_forgetJet_9 : decode cX2_forgetJet 9 = .ok (.if_icmp .ge 18, 3) := by decide +kernel
theorem dX2_forgetJet_12 : decode cX2_forgetJet 12 = .ok (.iload_n 2, 1) := by decide +kernel
theorem dX2_forgetJet_13 : decode cX2_forgetJet 13 = .ok (.aload_n 0, 1) := by decide +kernel
theorem dX2_forgetJet_14 : decode cX2_forgetJet 14 = .ok (.iload_n 3, 1) := by decide +kernel
theorem dX2_forgetJet_15 : decode cX2_forgetJet 15 = .ok (.iload_n 1, 1) := by decide +kernel
theorem dX2_forgetJet_16 : decode cX2_forgetJet 16 = .ok (.invokevirtual 59, 3) := by decide +kernel
theorem dX2_forgetJet_19 : decode cX2_forgetJet 19 = .ok (.iadd, 1) := by decide +kernel
theorem dX2_forgetJet_20 : decode cX2_forgetJet 20 = .ok (.istore_n 2, 1) := by decide +kernel
theorem dX2_forgetJet_21 : decode cX2_forgetJet 21 = .ok (.iinc 3 1, 3) := by decide +kernel
theorem dX2_forgetJet_24 : decode cX2_forgetJet 24 = .ok (.goto (-20), 3) := by decide +kernel
theorem dX2_forgetJet_27 : decode cX2_forgetJet 27 = .ok (.iload_n 2, 1) := by decide +kernel
theorem dX2_forgetJet_28 : decode cX2_forgetJet 28 = .ok (.ireturn, 1) := by decide +kernel
theorem dX2_forgetJetIn_0 : decode cX2_forgetJetIn 0 = .ok (.aload_n 0, 1) := by decide +kernel
theorem dX2_forgetJetIn_1 : decode cX2_forgetJetIn 1 = .ok (.getfield 9, 3) := by decide +kernel
theorem dX2_forgetJetIn_4 : decode cX2_forgetJetIn 4 = .ok (.iload_n 1, 1) := by decide +kernel
theorem dX2_forgetJetIn_5 : decode cX2_forgetJetIn 5 = .ok (.iaload, 1) := by decide +kernel
theorem dX2_forgetJetIn_6 : decode cX2_forgetJetIn 6 = .ok (.istore_n 3, 1) := by decide +kernel
theorem dX2_forgetJetIn_7 : decode cX2_forgetJetIn 7 = .ok (.iconst 0, 1) := by decide +kernel
theorem dX2_forgetJetIn_8 : decode cX2_forgetJetIn 8 = .ok (.istore 4, 2) := by decide +kernel
theorem dX2_forgetJetIn_10 : decode cX2_forgetJetIn 10 = .ok (.iconst 0, 1) := by decide +kernel
theorem dX2_forgetJetIn_11 : decode cX2_forgetJetIn 11 = .ok (.istore 5, 2) := by decide +kernel
theorem dX2_forgetJetIn_13 : decode cX2_forgetJetIn 13 = .ok (.iload 5, 2) := by decide +kernel
theorem dX2_forgetJetIn_15 : decode cX2_forgetJetIn 15 = .ok (.iload_n 3, 1) := by decide +kernel
theorem dX2_forgetJetIn_16 : decode cX2_forgetJetIn 16 = .ok (.if_icmp .ge 84, 3) := by decide +kernel
theorem dX2_forgetJetIn_19 : decode cX2_forgetJetIn 19 = .ok (.iload_n 1, 1) := by decide +kernel
theorem dX2_forgetJetIn_20 : decode cX2_forgetJetIn 20 = .ok (.iload 5, 2) := by decide +kernel
theorem dX2_forgetJetIn_22 : decode cX2_forgetJetIn 22 = .ok (.invokestatic 47, 3) := by decide +kernel
theorem dX2_forgetJetIn_25 : decode cX2_forgetJetIn 25 = .ok (.istore 6, 2) := by decide +kernel
theorem dX2_forgetJetIn_27 : decode cX2_forgetJetIn 27 = .ok (.aload_n 0, 1) := by decide +kernel
theorem dX2_forgetJetIn_28 : decode cX2_forgetJetIn 28 = .ok (.getfield 18, 3) := by decide +kernel
theorem dX2_forgetJetIn_31 : decode cX2_forgetJetIn 31 = .ok (.iload 6, 2) := by decide +kernel
theorem dX2_forgetJetIn_33 : decode cX2_forgetJetIn 33 = .ok (.iaload, 1) := by decide +kernel
theorem dX2_forgetJetIn_34 : decode cX2_forgetJetIn 34 = .ok (.iload_n 2, 1) := by decide +kernel
theorem dX2_forgetJetIn_35 : decode cX2_forgetJetIn 35 = .ok (.if_icmp .eq 59, 3) := by decide +kernel
theorem dX2_forgetJetIn_38 : decode cX2_forgetJetIn 38 = .ok (.iload_n 1, 1) := by decide +kernel
theorem dX2_forgetJetIn_39 : decode cX2_forgetJetIn 39 = .ok (.iload 4, 2) := by decide +kernel
theorem dX2_forgetJetIn_41 : decode cX2_forgetJetIn 41 = .ok (.invokestatic 47, 3) := by decide +kernel
theorem dX2_forgetJetIn_44 : decode cX2_forgetJetIn 44 = .ok (.istore 7, 2) := by decide +kernel
theorem dX2_forgetJetIn_46 : decode cX2_forgetJetIn 46 = .ok (.aload_n 0, 1) := by decide +kernel
theorem dX2_forgetJetIn_47 : decode cX2_forgetJetIn 47 = .ok (.iload 6, 2) := by decide +kernel
theorem dX2_forgetJetIn_49 : decode cX2_forgetJetIn 49 = .ok (.iload 7, 2) := by decide +kernel
theorem dX2_forgetJetIn_51 : decode cX2_forgetJetIn 51 = .ok (.invokevirtual 51, 3) := by decide +kernel
theorem dX2_forgetJetIn_54 : decode cX2_forgetJetIn 54 = .ok (.aload_n 0, 1) := by decide +kernel
theorem dX2_forgetJetIn_55 : decode cX2_forgetJetIn 55 = .ok (.getfield 18, 3) := by decide +kernel
theorem dX2_forgetJetIn_58 : decode cX2_forgetJetIn 58 = .ok (.iload 7, 2) := by decide +kernel
theorem dX2_forgetJetIn_60 : decode cX2_forgetJetIn 60 = .ok (.aload_n 0, 1) := by decide +kernel
theorem dX2_forgetJetIn_61 : decode cX2_forgetJetIn 61 = .ok (.getfield 18, 3) := by decide +kernel
theorem dX2_forgetJetIn_64 : decode cX2_forgetJetIn 64 = .ok (.iload 7, 2) := by decide +kernel
theorem dX2_forgetJetIn_66 : decode cX2_forgetJetIn 66 = .ok (.iaload, 1) := by decide +kernel
theorem dX2_forgetJetIn_67 : decode cX2_forgetJetIn 67 = .ok (.iload_n 2, 1) := by decide +kernel
theorem dX2_forgetJetIn_68 : decode cX2_forgetJetIn 68 = .ok (.if_icmp .le 15, 3) := by decide +kernel
theorem dX2_forgetJetIn_71 : decode cX2_forgetJetIn 71 = .ok (.aload_n 0, 1) := by decide +kernel
theorem dX2_forgetJetIn_72 : decode cX2_forgetJetIn 72 = .ok (.getfield 18, 3) := by decide +kernel
theorem dX2_forgetJetIn_75 : decode cX2_forgetJetIn 75 = .ok (.iload 7, 2) := by decide +kernel
theorem dX2_forgetJetIn_77 : decode cX2_forgetJetIn 77 = .ok (.iaload, 1) := by decide +kernel
theorem dX2_forgetJetIn_78 : decode cX2_forgetJetIn 78 = .ok (.iconst 1, 1) := by decide +kernel
theorem dX2_forgetJetIn_79 : decode cX2_forgetJetIn 79 = .ok (.isub, 1) := by decide +kernel
theorem dX2_forgetJetIn_80 : decode cX2_forgetJetIn 80 = .ok (.goto 10, 3) := by decide +kernel
theorem dX2_forgetJetIn_83 : decode cX2_forgetJetIn 83 = .ok (.aload_n 0, 1) := by decide +kernel
theorem dX2_forgetJetIn_84 : decode cX2_forgetJetIn 84 = .ok (.getfield 18, 3) := by decide +kernel
theorem dX2_forgetJetIn_87 : decode cX2_forgetJetIn 87 = .ok (.iload 7, 2) := by decide +kernel
theorem dX2_forgetJetIn_89 : decode cX2_forgetJetIn 89 = .ok (.iaload, 1) := by decide +kernel
theorem dX2_forgetJetIn_90 : decode cX2_forgetJetIn 90 = .ok (.iastore, 1) := by decide +kernel
theorem dX2_forgetJetIn_91 : decode cX2_forgetJetIn 91 = .ok (.iinc 4 1, 3) := by decide +kernel
theorem dX2_forgetJetIn_94 : decode cX2_forgetJetIn 94 = .ok (.iinc 5 1, 3) := by decide +kernel
theorem dX2_forgetJetIn_97 : decode cX2_forgetJetIn 97 = .ok (.goto (-84), 3) := by decide +kernel
theorem dX2_forgetJetIn_100 : decode cX2_forgetJetIn 100 = .ok (.aload_n 0, 1) := by decide +kernel
theorem dX2_forgetJetIn_101 : decode cX2_forgetJetIn 101 = .ok (.getfield 9, 3) := by decide +kernel
theorem dX2_forgetJetIn_104 : decode cX2_forgetJetIn 104 = .ok (.iload_n 1, 1) := by decide +kernel
theorem dX2_forgetJetIn_105 : decode cX2_forgetJetIn 105 = .ok (.iload 4, 2) := by decide +kernel
theorem dX2_forgetJetIn_107 : decode cX2_forgetJetIn 107 = .ok (.iastore, 1) := by decide +kernel
theorem dX2_forgetJetIn_108 : decode cX2_forgetJetIn 108 = .ok (.iload_n 3, 1) := by decide +kernel
theorem dX2_forgetJetIn_109 : decode cX2_forgetJetIn 109 = .ok (.iload 4, 2) := by decide +kernel
theorem dX2_forgetJetIn_111 : decode cX2_forgetJetIn 111 = .ok (.isub, 1) := by decide +kernel
theorem dX2_forgetJetIn_112 : decode cX2_forgetJetIn 112 = .ok (.ireturn, 1) := by decide +kernel
