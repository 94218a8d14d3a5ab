theorem dX9_addsStep_115 : decode cX9_addsStep 115 = .ok (.iconst 1, 1) := by decide +kernel
theorem dX9_addsStep_116 : decode cX9_addsStep 116 = .ok (.iadd, 1) := by decide +kernel
theorem dX9_addsStep_117 : decode cX9_addsStep 117 = .ok (.iastore, 1) := by decide +kernel
theorem dX9_addsStep_118 : decode cX9_addsStep 118 = .ok (.aload_n 0, 1) := by decide +kernel
theorem dX9_addsStep_119 : decode cX9_addsStep 119 = .ok (.iload 5, 2) := by decide +kernel
theorem dX9_addsStep_121 : decode cX9_addsStep 121 = .ok (.iconst 1, 1) := by decide +kernel
theorem dX9_addsStep_122 : decode cX9_addsStep 122 = .ok (.iadd, 1) := by decide +kernel
theorem dX9_addsStep_123 : decode cX9_addsStep 123 = .ok (.invokevirtual 87, 3) := by decide +kernel
theorem dX9_addsStep_126 : decode cX9_addsStep 126 = .ok (.ireturn, 1) := by decide +kernel
theorem dX9_isStep_0 : decode cX9_isStep 0 = .ok (.aload_n 0, 1) := by decide +kernel
theorem dX9_isStep_1 : decode cX9_isStep 1 = .ok (.iload_n 1, 1) := by decide +kernel
theorem dX9_isStep_2 : decode cX9_isStep 2 = .ok (.invokevirtual 101, 3) := by decide +kernel
theorem dX9_isStep_5 : decode cX9_isStep 5 = .ok (.ifCond .eq 22, 3) := by decide +kernel
theorem dX9_isStep_8 : decode cX9_isStep 8 = .ok (.iload_n 2, 1) := by decide +kernel
theorem dX9_isStep_9 : decode cX9_isStep 9 = .ok (.iconst 0, 1) := by decide +kernel
theorem dX9_isStep_10 : decode cX9_isStep 10 = .ok (.aload_n 0, 1) := by decide +kernel
theorem dX9_isStep_11 : decode cX9_isStep 11 = .ok (.iload_n 1, 1) := by decide +kernel
theorem dX9_isStep_12 : decode cX9_isStep 12 = .ok (.invokevirtual 77, 3) := by decide +kernel
theorem dX9_isStep_15 : decode cX9_isStep 15 = .ok (.iconst 1, 1) := by decide +kernel
theorem dX9_isStep_16 : decode cX9_isStep 16 = .ok (.isub, 1) := by decide +kernel
theorem dX9_isStep_17 : decode cX9_isStep 17 = .ok (.invokestatic 57, 3) := by decide +kernel
theorem dX9_isStep_20 : decode cX9_isStep 20 = .ok (.ifCond .eq 7, 3) := by decide +kernel
theorem dX9_isStep_23 : decode cX9_isStep 23 = .ok (.iconst 1, 1) := by decide +kernel
theorem dX9_isStep_24 : decode cX9_isStep 24 = .ok (.goto 4, 3) := by decide +kernel
theorem dX9_isStep_27 : decode cX9_isStep 27 = .ok (.iconst 0, 1) := by decide +kernel
theorem dX9_isStep_28 : decode cX9_isStep 28 = .ok (.ireturn, 1) := by decide +kernel
theorem dX9_removesStep_0 : decode cX9_removesStep 0 = .ok (.aload_n 0, 1) := by decide +kernel
theorem dX9_removesStep_1 : decode cX9_removesStep 1 = .ok (.iload_n 1, 1) := by decide +kernel
theorem dX9_removesStep_2 : decode cX9_removesStep 2 = .ok (.iload_n 2, 1) := by decide +kernel
theorem dX9_removesStep_3 : decode cX9_removesStep 3 = .ok (.invokevirtual 104, 3) := by decide +kernel
theorem dX9_removesStep_6 : decode cX9_removesStep 6 = .ok (.ifCond .ne 5, 3) := by decide +kernel
theorem dX9_removesStep_9 : decode cX9_removesStep 9 = .ok (.iconst 1, 1) := by decide +kernel
theorem dX9_removesStep_10 : decode cX9_removesStep 10 = .ok (.ireturn, 1) := by decide +kernel
theorem dX9_removesStep_11 : decode cX9_removesStep 11 = .ok (.aload_n 0, 1) := by decide +kernel
theorem dX9_removesStep_12 : decode cX9_removesStep 12 = .ok (.iload_n 1, 1) := by decide +kernel
theorem dX9_removesStep_13 : decode cX9_removesStep 13 = .ok (.iload_n 2, 1) := by decide +kernel
theorem dX9_removesStep_14 : decode cX9_removesStep 14 = .ok (.invokevirtual 94, 3) := by decide +kernel
theorem dX9_removesStep_17 : decode cX9_removesStep 17 = .ok (.aload_n 0, 1) := by decide +kernel
theorem dX9_removesStep_18 : decode cX9_removesStep 18 = .ok (.aload_n 0, 1) := by decide +kernel
theorem dX9_removesStep_19 : decode cX9_removesStep 19 = .ok (.iload_n 1, 1) := by decide +kernel
theorem dX9_removesStep_20 : decode cX9_removesStep 20 = .ok (.invokevirtual 77, 3) := by decide +kernel
theorem dX9_removesStep_23 : decode cX9_removesStep 23 = .ok (.invokevirtual 87, 3) := by decide +kernel
theorem dX9_removesStep_26 : decode cX9_removesStep 26 = .ok (.ireturn, 1) := by decide +kernel
theorem dX9_plays_0 : decode cX9_plays 0 = .ok (.aload_n 0, 1) := by decide +kernel
theorem dX9_plays_1 : decode cX9_plays 1 = .ok (.iload_n 1, 1) := by decide +kernel
theorem dX9_plays_2 : decode cX9_plays 2 = .ok (.invokevirtual 101, 3) := by decide +kernel
theorem dX9_plays_5 : decode cX9_plays 5 = .ok (.ifCond .ne 5, 3) := by decide +kernel
theorem dX9_plays_8 : decode cX9_plays 8 = .ok (.iconst 1, 1) := by decide +kernel
theorem dX9_plays_9 : decode cX9_plays 9 = .ok (.ireturn, 1) := by decide +kernel
theorem dX9_plays_10 : decode cX9_plays 10 = .ok (.iload_n 2, 1) := by decide +kernel
theorem dX9_plays_11 : decode cX9_plays 11 = .ok (.iconst 1, 1) := by decide +kernel
theorem dX9_plays_12 : decode cX9_plays 12 = .ok (.bipush 30, 2) := by decide +kernel
theorem dX9_plays_14 : decode cX9_plays 14 = .ok (.invokestatic 57, 3) := by decide +kernel
theorem dX9_plays_17 : decode cX9_plays 17 = .ok (.ifCond .ne 5, 3) := by decide +kernel
theorem dX9_plays_20 : decode cX9_plays 20 = .ok (.iconst 2, 1) := by decide +kernel
theorem dX9_plays_21 : decode cX9_plays 21 = .ok (.ireturn, 1) := by decide +kernel
theorem dX9_plays_22 : decode cX9_plays 22 = .ok (.aload_n 0, 1) := by decide +kernel
theorem dX9_plays_23 : decode cX9_plays 23 = .ok (.getfield 7, 3) := by decide +kernel
theorem dX9_plays_26 : decode cX9_plays 26 = .ok (.iconst 2, 1) := by decide +kernel
theorem dX9_plays_27 : decode cX9_plays 27 = .ok (.iaload, 1) := by decide +kernel
theorem dX9_plays_28 : decode cX9_plays 28 = .ok (.istore_n 3, 1) := by decide +kernel
theorem dX9_plays_29 : decode cX9_plays 29 = .ok (.iload_n 3, 1) := by decide +kernel
theorem dX9_plays_30 : decode cX9_plays 30 = .ok (.bipush 6, 2) := by decide +kernel
theorem dX9_plays_32 : decode cX9_plays 32 = .ok (.if_icmp .ne 5, 3) := by decide +kernel
theorem dX9_plays_35 : decode cX9_plays 35 = .ok (.iconst 3, 1) := by decide +kernel
theorem dX9_plays_36 : decode cX9_plays 36 = .ok (.ireturn, 1) := by decide +kernel
theorem dX9_plays_37 : decode cX9_plays 37 = .ok (.aload_n 0, 1) := by decide +kernel
theorem dX9_plays_38 : decode cX9_plays 38 = .ok (.getfield 7, 3) := by decide +kernel
theorem dX9_plays_41 : decode cX9_plays 41 = .ok (.sipush 153, 3) := by decide +kernel
theorem dX9_plays_44 : decode cX9_plays 44 = .ok (.iconst 2, 1) := by decide +kernel
theorem dX9_plays_45 : decode cX9_plays 45 = .ok (.iload_n 3, 1) := by decide +kernel
theorem dX9_plays_46 : decode cX9_plays 46 = .ok (.imul, 1) := by decide +kernel
theorem dX9_plays_47 : decode cX9_plays 47 = .ok (.iadd, 1) := by decide +kernel
theorem dX9_plays_48 : decode cX9_plays 48 = .ok (.iload_n 1, 1) := by decide +kernel
theorem dX9_plays_49 : decode cX9_plays 49 = .ok (.iastore, 1) := by decide +kernel
theorem dX9_plays_50 : decode cX9_plays 50 = .ok (.aload_n 0, 1) := by decide +kernel
theorem dX9_plays_51 : decode cX9_plays 51 = .ok (.getfield 7, 3) := by decide +kernel
theorem dX9_plays_54 : decode cX9_plays 54 = .ok (.sipush 153, 3) := by decide +kernel
theorem dX9_plays_57 : decode cX9_plays 57 = .ok (.iconst 2, 1) := by decide +kernel
theorem dX9_plays_58 : decode cX9_plays 58 = .ok (.iload_n 3, 1) := by decide +kernel
theorem dX9_plays_59 : decode cX9_plays 59 = .ok (.imul, 1) := by decide +kernel
theorem dX9_plays_60 : decode cX9_plays 60 = .ok (.iadd, 1) := by decide +kernel
theorem dX9_plays_61 : decode cX9_plays 61 = .ok (.iconst 1, 1) := by decide +kernel
theorem dX9_plays_62 : decode cX9_plays 62 = .ok (.iadd, 1) := by decide +kernel
theorem dX9_plays_63 : decode cX9_plays 63 = .ok (.aload_n 0, 1) := by decide +kernel
theorem dX9_plays_64 : decode cX9_plays 64 = .ok (.getfield 7, 3) := by decide +kernel
theorem dX9_plays_67 : decode cX9_plays 67 = .ok (.iconst 5, 1) := by decide +kernel
theorem dX9_plays_68 : decode cX9_plays 68 = .ok (.iaload, 1) := by decide +kernel
theorem dX9_plays_69 : decode cX9_plays 69 = .ok (.iload_n 2, 1) := by decide +kernel
theorem dX9_plays_70 : decode cX9_plays 70 = .ok (.iadd, 1) := by decide +kernel
theorem dX9_plays_71 : decode cX9_plays 71 = .ok (.iastore, 1) := by decide +kernel
theorem dX9_plays_72 : decode cX9_plays 72 = .ok (.aload_n 0, 1) := by decide +kernel
theorem dX9_plays_73 : decode cX9_plays 73 = .ok (.getfield 7, 3) := by decide +kernel
theorem dX9_plays_76 : decode cX9_plays 76 = .ok (.iconst 2, 1) := by decide +kernel
theorem dX9_plays_77 : decode cX9_plays 77 = .ok (.iload_n 3, 1) := by decide +kernel
theorem dX9_plays_78 : decode cX9_plays 78 = .ok (.iconst 1, 1) := by decide +kernel
theorem dX9_plays_79 : decode cX9_plays 79 = .ok (.iadd, 1) := by decide +kernel
theorem dX9_plays_80 : decode cX9_plays 80 = .ok (.iastore, 1) := by decide +kernel
theorem dX9_plays_81 : decode cX9_plays 81 = .ok (.aload_n 0, 1) := by decide +kernel
theorem dX9_plays_82 : decode cX9_plays 82 = .ok (.aload_n 0, 1) := by decide +kernel
theorem dX9_plays_83 : decode cX9_plays 83 = .ok (.getfield 7, 3) := by decide +kernel
theorem dX9_plays_86 : decode cX9_plays 86 = .ok (.iconst 5, 1) := by decide +kernel
theorem dX9_plays_87 : decode cX9_plays 87 = .ok (.iaload, 1) := by decide +kernel
theorem dX9_plays_88 : decode cX9_plays 88 = .ok (.iload_n 2, 1) := by decide +kernel
theorem dX9_plays_89 : decode cX9_plays 89 = .ok (.iadd, 1) := by decide +kernel
theorem dX9_plays_90 : decode cX9_plays 90 = .ok (.invokevirtual 87, 3) := by decide +kernel
theorem dX9_plays_93 : decode cX9_plays 93 = .ok (.ireturn, 1) := by decide +kernel
theorem dX9_drops_0 : decode cX9_drops 0 = .ok (.aload_n 0, 1) := by decide +kernel
theorem dX9_drops_1 : decode cX9_drops 1 = .ok (.getfield 7, 3) := by decide +kernel
theorem dX9_drops_4 : decode cX9_drops 4 = .ok (.iconst 2, 1) := by decide +kernel
theorem dX9_drops_5 : decode cX9_drops 5 = .ok (.iaload, 1) := by decide +kernel
theorem dX9_drops_6 : decode cX9_drops 6 = .ok (.iconst 1, 1) := by decide +kernel
theorem dX9_drops_7 : decode cX9_drops 7 = .ok (.isub, 1) := by decide +kernel
theorem dX9_drops_8 : decode cX9_drops 8 = .ok (.istore_n 2, 1) := by decide +kernel
theorem dX9_drops_9 : decode cX9_drops 9 = .ok (.iconst 2, 1) := by decide +kernel
theorem dX9_drops_10 : decode cX9_drops 10 = .ok (.iload_n 1, 1) := by decide +kernel
theorem dX9_drops_11 : decode cX9_drops 11 = .ok (.imul, 1) := by decide +kernel
theorem dX9_drops_12 : decode cX9_drops 12 = .ok (.istore_n 3, 1) := by decide +kernel
theorem dX9_drops_13 : decode cX9_drops 13 = .ok (.iload_n 3, 1) := by decide +kernel
theorem dX9_drops_14 : decode cX9_drops 14 = .ok (.iconst 2, 1) := by decide +kernel
theorem dX9_drops_15 : decode cX9_drops 15 = .ok (.iload_n 2, 1) := by decide +kernel
theorem dX9_drops_16 : decode cX9_drops 16 = .ok (.imul, 1) := by decide +kernel
theorem dX9_drops_17 : decode cX9_drops 17 = .ok (.if_icmp .ge 31, 3) := by decide +kernel
theorem dX9_drops_20 : decode cX9_drops 20 = .ok (.aload_n 0, 1) := by decide +kernel
theorem dX9_drops_21 : decode cX9_drops 21 = .ok (.getfield 7, 3) := by decide +kernel
theorem dX9_drops_24 : decode cX9_drops 24 = .ok (.sipush 153, 3) := by decide +kernel
theorem dX9_drops_27 : decode cX9_drops 27 = .ok (.iload_n 3, 1) := by decide +kernel
theorem dX9_drops_28 : decode cX9_drops 28 = .ok (.iadd, 1) := by decide +kernel
theorem dX9_drops_29 : decode cX9_drops 29 = .ok (.aload_n 0, 1) := by decide +kernel
theorem dX9_drops_30 : decode cX9_drops 30 = .ok (.getfield 7, 3) := by decide +kernel
theorem dX9_drops_33 : decode cX9_drops 33 = .ok (.sipush 153, 3) := by decide +kernel
theorem dX9_drops_36 : decode cX9_drops 36 = .ok (.iload_n 3, 1) := by decide +kernel
theorem dX9_drops_37 : decode cX9_drops 37 = .ok (.iadd, 1) := by decide +kernel
theorem dX9_drops_38 : decode cX9_drops 38 = .ok (.iconst 2, 1) := by decide +kernel
theorem dX9_drops_39 : decode cX9_drops 39 = .ok (.iadd, 1) := by decide +kernel
theorem dX9_drops_40 : decode cX9_drops 40 = .ok (.iaload, 1) := by decide +kernel
theorem dX9_drops_41 : decode cX9_drops 41 = .ok (.iastore, 1) := by decide +kernel
theorem dX9_drops_42 : decode cX9_drops 42 = .ok (.iinc 3 1, 3) := by decide +kernel
theorem dX9_drops_45 : decode cX9_drops 45 = .ok (.goto (-32), 3) := by decide +kernel
theorem dX9_drops_48 : decode cX9_drops 48 = .ok (.aload_n 0, 1) := by decide +kernel
theorem dX9_drops_49 : decode cX9_drops 49 = .ok (.getfield 7, 3) := by decide +kernel
theorem dX9_drops_52 : decode cX9_drops 52 = .ok (.sipush 153, 3) := by decide +kernel
theorem dX9_drops_55 : decode cX9_drops 55 = .ok (.iconst 2, 1) := by decide +kernel
theorem dX9_drops_56 : decode cX9_drops 56 = .ok (.iload_n 2, 1) := by decide +kernel
theorem dX9_drops_57 : decode cX9_drops 57 = .ok (.imul, 1) := by decide +kernel
theorem dX9_drops_58 : decode cX9_drops 58 = .ok (.iadd, 1) := by decide +kernel
theorem dX9_drops_59 : decode cX9_drops 59 = .ok (.iconst 0, 1) := by decide +kernel
theorem dX9_drops_60 : decode cX9_drops 60 = .ok (.iastore, 1) := by decide +kernel
theorem dX9_drops_61 : decode cX9_drops 61 = .ok (.aload_n 0, 1) := by decide +kernel
theorem dX9_drops_62 : decode cX9_drops 62 = .ok (.getfield 7, 3) := by decide +kernel
theorem dX9_drops_65 : decode cX9_drops 65 = .ok (.sipush 153, 3) := by decide +kernel
theorem dX9_drops_68 : decode cX9_drops 68 = .ok (.iconst 2, 1) := by decide +kernel
theorem dX9_drops_69 : decode cX9_drops 69 = .ok (.iload_n 2, 1) := by decide +kernel
theorem dX9_drops_70 : decode cX9_drops 70 = .ok (.imul, 1) := by decide +kernel
theorem dX9_drops_71 : decode cX9_drops 71 = .ok (.iadd, 1) := by decide +kernel
theorem dX9_drops_72 : decode cX9_drops 72 = .ok (.iconst 1, 1) := by decide +kernel
theorem dX9_drops_73 : decode cX9_drops 73 = .ok (.iadd, 1) := by decide +kernel
theorem dX9_drops_74 : decode cX9_drops 74 = .ok (.iconst 0, 1) := by decide +kernel
theorem dX9_drops_75 : decode cX9_drops 75 = .ok (.iastore, 1) := by decide +kernel
theorem dX9_drops_76 : decode cX9_drops 76 = .ok (.aload_n 0, 1) := by decide +kernel
theorem dX9_drops_77 : decode cX9_drops 77 = .ok (.getfield 7, 3) := by decide +kernel
theorem dX9_drops_80 : decode cX9_drops 80 = .ok (.iconst 2, 1) := by decide +kernel
theorem dX9_drops_81 : decode cX9_drops 81 = .ok (.iload_n 2, 1) := by decide +kernel
theorem dX9_drops_82 : decode cX9_drops 82 = .ok (.iastore, 1) := by decide +kernel
theorem dX9_drops_83 : decode cX9_drops 83 = .ok (.return_, 1) := by decide +kernel
theorem dX9_cancels_0 : decode cX9_cancels 0 = .ok (.aload_n 0, 1) := by decide +kernel
theorem dX9_cancels_1 : decode cX9_cancels 1 = .ok (.iload_n 1, 1) := by decide +kernel
theorem dX9_cancels_2 : decode cX9_cancels 2 = .ok (.invokevirtual 108, 3) := by decide +kernel
theorem dX9_cancels_5 : decode cX9_cancels 5 = .ok (.ifCond .ne 5, 3) := by decide +kernel
theorem dX9_cancels_8 : decode cX9_cancels 8 = .ok (.iconst 1, 1) := by decide +kernel
theorem dX9_cancels_9 : decode cX9_cancels 9 = .ok (.ireturn, 1) := by decide +kernel
theorem dX9_cancels_10 : decode cX9_cancels 10 = .ok (.aload_n 0, 1) := by decide +kernel
theorem dX9_cancels_11 : decode cX9_cancels 11 = .ok (.getfield 7, 3) := by decide +kernel
theorem dX9_cancels_14 : decode cX9_cancels 14 = .ok (.sipush 153, 3) := by decide +kernel
theorem dX9_cancels_17 : decode cX9_cancels 17 = .ok (.iconst 2, 1) := by decide +kernel
theorem dX9_cancels_18 : decode cX9_cancels 18 = .ok (.iload_n 1, 1) := by decide +kernel
theorem dX9_cancels_19 : decode cX9_cancels 19 = .ok (.imul, 1) := by decide +kernel
theorem dX9_cancels_20 : decode cX9_cancels 20 = .ok (.iadd, 1) := by decide +kernel
theorem dX9_cancels_21 : decode cX9_cancels 21 = .ok (.iconst 1, 1) := by decide +kernel
theorem dX9_cancels_22 : decode cX9_cancels 22 = .ok (.iadd, 1) := by decide +kernel
theorem dX9_cancels_23 : decode cX9_cancels 23 = .ok (.iaload, 1) := by decide +kernel
theorem dX9_cancels_24 : decode cX9_cancels 24 = .ok (.istore_n 2, 1) := by decide +kernel
theorem dX9_cancels_25 : decode cX9_cancels 25 = .ok (.aload_n 0, 1) := by decide +kernel
theorem dX9_cancels_26 : decode cX9_cancels 26 = .ok (.iload_n 1, 1) := by decide +kernel
theorem dX9_cancels_27 : decode cX9_cancels 27 = .ok (.invokevirtual 111, 3) := by decide +kernel
theorem dX9_cancels_30 : decode cX9_cancels 30 = .ok (.aload_n 0, 1) := by decide +kernel
theorem dX9_cancels_31 : decode cX9_cancels 31 = .ok (.iload_n 2, 1) := by decide +kernel
theorem dX9_cancels_32 : decode cX9_cancels 32 = .ok (.invokevirtual 87, 3) := by decide +kernel
theorem dX9_cancels_35 : decode cX9_cancels 35 = .ok (.ireturn, 1) := by decide +kernel
theorem dX9_oneBeat_0 : decode cX9_oneBeat 0 = .ok (.aload_n 0, 1) := by decide +kernel
theorem dX9_oneBeat_1 : decode cX9_oneBeat 1 = .ok (.getfield 7, 3) := by decide +kernel
theorem dX9_oneBeat_4 : decode cX9_oneBeat 4 = .ok (.iconst 5, 1) := by decide +kernel
theorem dX9_oneBeat_5 : decode cX9_oneBeat 5 = .ok (.dup2, 1) := by decide +kernel
theorem dX9_oneBeat_6 : decode cX9_oneBeat 6 = .ok (.iaload, 1) := by decide +kernel
theorem dX9_oneBeat_7 : decode cX9_oneBeat 7 = .ok (.iconst 1, 1) := by decide +kernel
theorem dX9_oneBeat_8 : decode cX9_oneBeat 8 = .ok (.iadd, 1) := by decide +kernel
theorem dX9_oneBeat_9 : decode cX9_oneBeat 9 = .ok (.iastore, 1) := by decide +kernel
theorem dX9_oneBeat_10 : decode cX9_oneBeat 10 = .ok (.iconst 0, 1) := by decide +kernel
theorem dX9_oneBeat_11 : decode cX9_oneBeat 11 = .ok (.istore_n 1, 1) := by decide +kernel
theorem dX9_oneBeat_12 : decode cX9_oneBeat 12 = .ok (.iload_n 1, 1) := by decide +kernel
theorem dX9_oneBeat_13 : decode cX9_oneBeat 13 = .ok (.aload_n 0, 1) := by decide +kernel
theorem dX9_oneBeat_14 : decode cX9_oneBeat 14 = .ok (.getfield 7, 3) := by decide +kernel
theorem dX9_oneBeat_17 : decode cX9_oneBeat 17 = .ok (.iconst 2, 1) := by decide +kernel
theorem dX9_oneBeat_18 : decode cX9_oneBeat 18 = .ok (.iaload, 1) := by decide +kernel
theorem dX9_oneBeat_19 : decode cX9_oneBeat 19 = .ok (.if_icmp .ge 96, 3) := by decide +kernel
theorem dX9_oneBeat_22 : decode cX9_oneBeat 22 = .ok (.aload_n 0, 1) := by decide +kernel
theorem dX9_oneBeat_23 : decode cX9_oneBeat 23 = .ok (.getfield 7, 3) := by decide +kernel
theorem dX9_oneBeat_26 : decode cX9_oneBeat 26 = .ok (.sipush 153, 3) := by decide +kernel
theorem dX9_oneBeat_29 : decode cX9_oneBeat 29 = .ok (.iconst 2, 1) := by decide +kernel
theorem dX9_oneBeat_30 : decode cX9_oneBeat 30 = .ok (.iload_n 1, 1) := by decide +kernel
theorem dX9_oneBeat_31 : decode cX9_oneBeat 31 = .ok (.imul, 1) := by decide +kernel
theorem dX9_oneBeat_32 : decode cX9_oneBeat 32 = .ok (.iadd, 1) := by decide +kernel
theorem dX9_oneBeat_33 : decode cX9_oneBeat 33 = .ok (.iaload, 1) := by decide +kernel
theorem dX9_oneBeat_34 : decode cX9_oneBeat 34 = .ok (.istore_n 2, 1) := by decide +kernel
theorem dX9_oneBeat_35 : decode cX9_oneBeat 35 = .ok (.iconst 0, 1) := by decide +kernel
theorem dX9_oneBeat_36 : decode cX9_oneBeat 36 = .ok (.istore_n 3, 1) := by decide +kernel
theorem dX9_oneBeat_37 : decode cX9_oneBeat 37 = .ok (.iload_n 3, 1) := by decide +kernel
theorem dX9_oneBeat_38 : decode cX9_oneBeat 38 = .ok (.aload_n 0, 1) := by decide +kernel
theorem dX9_oneBeat_39 : decode cX9_oneBeat 39 = .ok (.iload_n 2, 1) := by decide +kernel
theorem dX9_oneBeat_40 : decode cX9_oneBeat 40 = .ok (.invokevirtual 77, 3) := by decide +kernel
theorem dX9_oneBeat_43 : decode cX9_oneBeat 43 = .ok (.if_icmp .ge 66, 3) := by decide +kernel
theorem dX9_oneBeat_46 : decode cX9_oneBeat 46 = .ok (.aload_n 0, 1) := by decide +kernel
theorem dX9_oneBeat_47 : decode cX9_oneBeat 47 = .ok (.getfield 7, 3) := by decide +kernel
theorem dX9_oneBeat_50 : decode cX9_oneBeat 50 = .ok (.sipush 153, 3) := by decide +kernel
theorem dX9_oneBeat_53 : decode cX9_oneBeat 53 = .ok (.iconst 2, 1) := by decide +kernel
theorem dX9_oneBeat_54 : decode cX9_oneBeat 54 = .ok (.iload_n 1, 1) := by decide +kernel
theorem dX9_oneBeat_55 : decode cX9_oneBeat 55 = .ok (.imul, 1) := by decide +kernel
theorem dX9_oneBeat_56 : decode cX9_oneBeat 56 = .ok (.iadd, 1) := by decide +kernel
theorem dX9_oneBeat_57 : decode cX9_oneBeat 57 = .ok (.iconst 1, 1) := by decide +kernel
theorem dX9_oneBeat_58 : decode cX9_oneBeat 58 = .ok (.iadd, 1) := by decide +kernel
theorem dX9_oneBeat_59 : decode cX9_oneBeat 59 = .ok (.iaload, 1) := by decide +kernel
theorem dX9_oneBeat_60 : decode cX9_oneBeat 60 = .ok (.aload_n 0, 1) := by decide +kernel
theorem dX9_oneBeat_61 : decode cX9_oneBeat 61 = .ok (.iload_n 2, 1) := by decide +kernel
theorem dX9_oneBeat_62 : decode cX9_oneBeat 62 = .ok (.iload_n 3, 1) := by decide +kernel
theorem dX9_oneBeat_63 : decode cX9_oneBeat 63 = .ok (.iconst 0, 1) := by decide +kernel
theorem dX9_oneBeat_64 : decode cX9_oneBeat 64 = .ok (.invokevirtual 80, 3) := by decide +kernel
theorem dX9_oneBeat_67 : decode cX9_oneBeat 67 = .ok (.iadd, 1) := by decide +kernel
theorem dX9_oneBeat_68 : decode cX9_oneBeat 68 = .ok (.aload_n 0, 1) := by decide +kernel
theorem dX9_oneBeat_69 : decode cX9_oneBeat 69 = .ok (.getfield 7, 3) := by decide +kernel
theorem dX9_oneBeat_72 : decode cX9_oneBeat 72 = .ok (.iconst 5, 1) := by decide +kernel
theorem dX9_oneBeat_73 : decode cX9_oneBeat 73 = .ok (.iaload, 1) := by decide +kernel
theorem dX9_oneBeat_74 : decode cX9_oneBeat 74 = .ok (.if_icmp .ne 29, 3) := by decide +kernel
theorem dX9_oneBeat_77 : decode cX9_oneBeat 77 = .ok (.aload_n 0, 1) := by decide +kernel
theorem dX9_oneBeat_78 : decode cX9_oneBeat 78 = .ok (.getfield 7, 3) := by decide +kernel
theorem dX9_oneBeat_81 : decode cX9_oneBeat 81 = .ok (.bipush 8, 2) := by decide +kernel
theorem dX9_oneBeat_83 : decode cX9_oneBeat 83 = .ok (.iconst 2, 1) := by decide +kernel
theorem dX9_oneBeat_84 : decode cX9_oneBeat 84 = .ok (.aload_n 0, 1) := by decide +kernel
theorem dX9_oneBeat_85 : decode cX9_oneBeat 85 = .ok (.iload_n 2, 1) := by decide +kernel
theorem dX9_oneBeat_86 : decode cX9_oneBeat 86 = .ok (.iload_n 3, 1) := by decide +kernel
theorem dX9_oneBeat_87 : decode cX9_oneBeat 87 = .ok (.iconst 1, 1) := by decide +kernel
theorem dX9_oneBeat_88 : decode cX9_oneBeat 88 = .ok (.invokevirtual 80, 3) := by decide +kernel
theorem dX9_oneBeat_91 : decode cX9_oneBeat 91 = .ok (.imul, 1) := by decide +kernel
theorem dX9_oneBeat_92 : decode cX9_oneBeat 92 = .ok (.iadd, 1) := by decide +kernel
theorem dX9_oneBeat_93 : decode cX9_oneBeat 93 = .ok (.iconst 1, 1) := by decide +kernel
theorem dX9_oneBeat_94 : decode cX9_oneBeat 94 = .ok (.iadd, 1) := by decide +kernel
theorem dX9_oneBeat_95 : decode cX9_oneBeat 95 = .ok (.aload_n 0, 1) := by decide +kernel
theorem dX9_oneBeat_96 : decode cX9_oneBeat 96 = .ok (.iload_n 2, 1) := by decide +kernel
theorem dX9_oneBeat_97 : decode cX9_oneBeat 97 = .ok (.iload_n 3, 1) := by decide +kernel
theorem dX9_oneBeat_98 : decode cX9_oneBeat 98 = .ok (.iconst 2, 1) := by decide +kernel
theorem dX9_oneBeat_99 : decode cX9_oneBeat 99 = .ok (.invokevirtual 80, 3) := by decide +kernel
theorem dX9_oneBeat_102 : decode cX9_oneBeat 102 = .ok (.iastore, 1) := by decide +kernel
theorem dX9_oneBeat_103 : decode cX9_oneBeat 103 = .ok (.iinc 3 1, 3) := by decide +kernel
theorem dX9_oneBeat_106 : decode cX9_oneBeat 106 = .ok (.goto (-69), 3) := by decide +kernel
theorem dX9_oneBeat_109 : decode cX9_oneBeat 109 = .ok (.iinc 1 1, 3) := by decide +kernel
theorem dX9_oneBeat_112 : decode cX9_oneBeat 112 = .ok (.goto (-100), 3) := by decide +kernel
theorem dX9_oneBeat_115 : decode cX9_oneBeat 115 = .ok (.iconst 0, 1) := by decide +kernel
theorem dX9_oneBeat_116 : decode cX9_oneBeat 116 = .ok (.istore_n 1, 1) := by decide +kernel
theorem dX9_oneBeat_117 : decode cX9_oneBeat 117 = .ok (.aload_n 0, 1) := by decide +kernel
theorem dX9_oneBeat_118 : decode cX9_oneBeat 118 = .ok (.getfield 7, 3) := by decide +kernel
theorem dX9_oneBeat_121 : decode cX9_oneBeat 121 = .ok (.iconst 2, 1) := by decide +kernel
theorem dX9_oneBeat_122 : decode cX9_oneBeat 122 = .ok (.iaload, 1) := by decide +kernel
theorem dX9_oneBeat_123 : decode cX9_oneBeat 123 = .ok (.iconst 1, 1) := by decide +kernel
theorem dX9_oneBeat_124 : decode cX9_oneBeat 124 = .ok (.isub, 1) := by decide +kernel
theorem dX9_oneBeat_125 : decode cX9_oneBeat 125 = .ok (.istore_n 2, 1) := by decide +kernel
theorem dX9_oneBeat_126 : decode cX9_oneBeat 126 = .ok (.iload_n 2, 1) := by decide +kernel
theorem dX9_oneBeat_127 : decode cX9_oneBeat 127 = .ok (.ifCond .lt 34, 3) := by decide +kernel
theorem dX9_oneBeat_130 : decode cX9_oneBeat 130 = .ok (.aload_n 0, 1) := by decide +kernel
theorem dX9_oneBeat_131 : decode cX9_oneBeat 131 = .ok (.iload_n 2, 1) := by decide +kernel
theorem dX9_oneBeat_132 : decode cX9_oneBeat 132 = .ok (.invokevirtual 115, 3) := by decide +kernel
theorem dX9_oneBeat_135 : decode cX9_oneBeat 135 = .ok (.aload_n 0, 1) := by decide +kernel
theorem dX9_oneBeat_136 : decode cX9_oneBeat 136 = .ok (.getfield 7, 3) := by decide +kernel
theorem dX9_oneBeat_139 : decode cX9_oneBeat 139 = .ok (.iconst 5, 1) := by decide +kernel
theorem dX9_oneBeat_140 : decode cX9_oneBeat 140 = .ok (.iaload, 1) := by decide +kernel
theorem dX9_oneBeat_141 : decode cX9_oneBeat 141 = .ok (.if_icmp .le 6, 3) := by decide +kernel
theorem dX9_oneBeat_144 : decode cX9_oneBeat 144 = .ok (.goto 11, 3) := by decide +kernel
theorem dX9_oneBeat_147 : decode cX9_oneBeat 147 = .ok (.aload_n 0, 1) := by decide +kernel
theorem dX9_oneBeat_148 : decode cX9_oneBeat 148 = .ok (.iload_n 2, 1) := by decide +kernel
theorem dX9_oneBeat_149 : decode cX9_oneBeat 149 = .ok (.invokevirtual 111, 3) := by decide +kernel
theorem dX9_oneBeat_152 : decode cX9_oneBeat 152 = .ok (.iinc 1 1, 3) := by decide +kernel
theorem dX9_oneBeat_155 : decode cX9_oneBeat 155 = .ok (.iinc 2 (-1), 3) := by decide +kernel
theorem dX9_oneBeat_158 : decode cX9_oneBeat 158 = .ok (.goto (-32), 3) := by decide +kernel
theorem dX9_oneBeat_161 : decode cX9_oneBeat 161 = .ok (.aload_n 0, 1) := by decide +kernel
theorem dX9_oneBeat_162 : decode cX9_oneBeat 162 = .ok (.getfield 7, 3) := by decide +kernel
theorem dX9_oneBeat_165 : decode cX9_oneBeat 165 = .ok (.bipush 6, 2) := by decide +kernel
theorem dX9_oneBeat_167 : decode cX9_oneBeat 167 = .ok (.dup2, 1) := by decide +kernel
theorem dX9_oneBeat_168 : decode cX9_oneBeat 168 = .ok (.iaload, 1) := by decide +kernel
theorem dX9_oneBeat_169 : decode cX9_oneBeat 169 = .ok (.aload_n 0, 1) := by decide +kernel
theorem dX9_oneBeat_170 : decode cX9_oneBeat 170 = .ok (.invokevirtual 118, 3) := by decide +kernel
theorem dX9_oneBeat_173 : decode cX9_oneBeat 173 = .ok (.iadd, 1) := by decide +kernel
theorem dX9_oneBeat_174 : decode cX9_oneBeat 174 = .ok (.iastore, 1) := by decide +kernel
theorem dX9_oneBeat_175 : decode cX9_oneBeat 175 = .ok (.aload_n 0, 1) := by decide +kernel
theorem dX9_oneBeat_176 : decode cX9_oneBeat 176 = .ok (.getfield 7, 3) := by decide +kernel
theorem dX9_oneBeat_179 : decode cX9_oneBeat 179 = .ok (.bipush 7, 2) := by decide +kernel
theorem dX9_oneBeat_181 : decode cX9_oneBeat 181 = .ok (.dup2, 1) := by decide +kernel
theorem dX9_oneBeat_182 : decode cX9_oneBeat 182 = .ok (.iaload, 1) := by decide +kernel
theorem dX9_oneBeat_183 : decode cX9_oneBeat 183 = .ok (.aload_n 0, 1) := by decide +kernel
theorem dX9_oneBeat_184 : decode cX9_oneBeat 184 = .ok (.invokevirtual 64, 3) := by decide +kernel
theorem dX9_oneBeat_187 : decode cX9_oneBeat 187 = .ok (.aload_n 0, 1) := by decide +kernel
theorem dX9_oneBeat_188 : decode cX9_oneBeat 188 = .ok (.invokevirtual 118, 3) := by decide +kernel
theorem dX9_oneBeat_191 : decode cX9_oneBeat 191 = .ok (.isub, 1) := by decide +kernel
theorem dX9_oneBeat_192 : decode cX9_oneBeat 192 = .ok (.iadd, 1) := by decide +kernel
theorem dX9_oneBeat_193 : decode cX9_oneBeat 193 = .ok (.iastore, 1) := by decide +kernel
theorem dX9_oneBeat_194 : decode cX9_oneBeat 194 = .ok (.iload_n 1, 1) := by decide +kernel
theorem dX9_oneBeat_195 : decode cX9_oneBeat 195 = .ok (.ireturn, 1) := by decide +kernel
theorem dX9_passes_0 : decode cX9_passes 0 = .ok (.iload_n 1, 1) := by decide +kernel
theorem dX9_passes_1 : decode cX9_passes 1 = .ok (.iconst 1, 1) := by decide +kernel
theorem dX9_passes_2 : decode cX9_passes 2 = .ok (.bipush 40, 2) := by decide +kernel
theorem dX9_passes_4 : decode cX9_passes 4 = .ok (.invokestatic 57, 3) := by decide +kernel
theorem dX9_passes_7 : decode cX9_passes 7 = .ok (.ifCond .ne 5, 3) := by decide +kernel
theorem dX9_passes_10 : decode cX9_passes 10 = .ok (.iconst 1, 1) := by decide +kernel
theorem dX9_passes_11 : decode cX9_passes 11 = .ok (.ireturn, 1) := by decide +kernel
theorem dX9_passes_12 : decode cX9_passes 12 = .ok (.iconst 0, 1) := by decide +kernel
theorem dX9_passes_13 : decode cX9_passes 13 = .ok (.istore_n 2, 1) := by decide +kernel
theorem dX9_passes_14 : decode cX9_passes 14 = .ok (.iconst 0, 1) := by decide +kernel
theorem dX9_passes_15 : decode cX9_passes 15 = .ok (.istore_n 3, 1) := by decide +kernel
theorem dX9_passes_16 : decode cX9_passes 16 = .ok (.iload_n 3, 1) := by decide +kernel
theorem dX9_passes_17 : decode cX9_passes 17 = .ok (.iload_n 1, 1) := by decide +kernel
theorem dX9_passes_18 : decode cX9_passes 18 = .ok (.if_icmp .ge 16, 3) := by decide +kernel
theorem dX9_passes_21 : decode cX9_passes 21 = .ok (.iload_n 2, 1) := by decide +kernel
theorem dX9_passes_22 : decode cX9_passes 22 = .ok (.aload_n 0, 1) := by decide +kernel
theorem dX9_passes_23 : decode cX9_passes 23 = .ok (.invokevirtual 121, 3) := by decide +kernel
theorem dX9_passes_26 : decode cX9_passes 26 = .ok (.iadd, 1) := by decide +kernel
theorem dX9_passes_27 : decode cX9_passes 27 = .ok (.istore_n 2, 1) := by decide +kernel
theorem dX9_passes_28 : decode cX9_passes 28 = .ok (.iinc 3 1, 3) := by decide +kernel
theorem dX9_passes_31 : decode cX9_passes 31 = .ok (.goto (-15), 3) := by decide +kernel
theorem dX9_passes_34 : decode cX9_passes 34 = .ok (.aload_n 0, 1) := by decide +kernel
theorem dX9_passes_35 : decode cX9_passes 35 = .ok (.iload_n 2, 1) := by decide +kernel
theorem dX9_passes_36 : decode cX9_passes 36 = .ok (.invokevirtual 87, 3) := by decide +kernel
theorem dX9_passes_39 : decode cX9_passes 39 = .ok (.ireturn, 1) := by decide +kernel
theorem dX9_addJet_0 : decode cX9_addJet 0 = .ok (.aload_n 0, 1) := by decide +kernel
theorem dX9_addJet_1 : decode cX9_addJet 1 = .ok (.invokevirtual 124, 3) := by decide +kernel
theorem dX9_addJet_4 : decode cX9_addJet 4 = .ok (.aload_n 0, 1) := by decide +kernel
theorem dX9_addJet_5 : decode cX9_addJet 5 = .ok (.aload_n 0, 1) := by decide +kernel
theorem dX9_addJet_6 : decode cX9_addJet 6 = .ok (.iload_n 1, 1) := by decide +kernel
theorem dX9_addJet_7 : decode cX9_addJet 7 = .ok (.invokevirtual 127, 3) := by decide +kernel
theorem dX9_addJet_10 : decode cX9_addJet 10 = .ok (.invokevirtual 130, 3) := by decide +kernel
theorem dX9_addJet_13 : decode cX9_addJet 13 = .ok (.ireturn, 1) := by decide +kernel
theorem dX9_removeJet_0 : decode cX9_removeJet 0 = .ok (.aload_n 0, 1) := by decide +kernel
theorem dX9_removeJet_1 : decode cX9_removeJet 1 = .ok (.invokevirtual 124, 3) := by decide +kernel
theorem dX9_removeJet_4 : decode cX9_removeJet 4 = .ok (.aload_n 0, 1) := by decide +kernel
theorem dX9_removeJet_5 : decode cX9_removeJet 5 = .ok (.aload_n 0, 1) := by decide +kernel
theorem dX9_removeJet_6 : decode cX9_removeJet 6 = .ok (.iload_n 1, 1) := by decide +kernel
theorem dX9_removeJet_7 : decode cX9_removeJet 7 = .ok (.invokevirtual 133, 3) := by decide +kernel
theorem dX9_removeJet_10 : decode cX9_removeJet 10 = .ok (.invokevirtual 130, 3) := by decide +kernel
theorem dX9_removeJet_13 : decode cX9_removeJet 13 = .ok (.ireturn, 1) := by decide +kernel
theorem dX9_setOpening_0 : decode cX9_setOpening 0 = .ok (.aload_n 0, 1) := by decide +kernel
theorem dX9_setOpening_1 : decode cX9_setOpening 1 = .ok (.invokevirtual 124, 3) := by decide +kernel
theorem dX9_setOpening_4 : decode cX9_setOpening 4 = .ok (.aload_n 0, 1) := by decide +kernel
theorem dX9_setOpening_5 : decode cX9_setOpening 5 = .ok (.aload_n 0, 1) := by decide +kernel
theorem dX9_setOpening_6 : decode cX9_setOpening 6 = .ok (.iload_n 1, 1) := by decide +kernel
theorem dX9_setOpening_7 : decode cX9_setOpening 7 = .ok (.iload_n 2, 1) := by decide +kernel
theorem dX9_setOpening_8 : decode cX9_setOpening 8 = .ok (.invokevirtual 136, 3) := by decide +kernel
theorem dX9_setOpening_11 : decode cX9_setOpening 11 = .ok (.invokevirtual 130, 3) := by decide +kernel
theorem dX9_setOpening_14 : decode cX9_setOpening 14 = .ok (.ireturn, 1) := by decide +kernel
theorem dX9_jetCount_0 : decode cX9_jetCount 0 = .ok (.aload_n 0, 1) := by decide +kernel
theorem dX9_jetCount_1 : decode cX9_jetCount 1 = .ok (.iconst 0, 1) := by decide +kernel
theorem dX9_jetCount_2 : decode cX9_jetCount 2 = .ok (.putfield 41, 3) := by decide +kernel
theorem dX9_jetCount_5 : decode cX9_jetCount 5 = .ok (.aload_n 0, 1) := by decide +kernel
theorem dX9_jetCount_6 : decode cX9_jetCount 6 = .ok (.getfield 7, 3) := by decide +kernel
theorem dX9_jetCount_9 : decode cX9_jetCount 9 = .ok (.iconst 0, 1) := by decide +kernel
theorem dX9_jetCount_10 : decode cX9_jetCount 10 = .ok (.iaload, 1) := by decide +kernel
theorem dX9_jetCount_11 : decode cX9_jetCount 11 = .ok (.ireturn, 1) := by decide +kernel
theorem dX9_isAsked_0 : decode cX9_isAsked 0 = .ok (.aload_n 0, 1) := by decide +kernel
theorem dX9_isAsked_1 : decode cX9_isAsked 1 = .ok (.aload_n 0, 1) := by decide +kernel
theorem dX9_isAsked_2 : decode cX9_isAsked 2 = .ok (.iload_n 1, 1) := by decide +kernel
theorem dX9_isAsked_3 : decode cX9_isAsked 3 = .ok (.invokevirtual 90, 3) := by decide +kernel
theorem dX9_isAsked_6 : decode cX9_isAsked 6 = .ok (.ifCond .eq 7, 3) := by decide +kernel
theorem dX9_isAsked_9 : decode cX9_isAsked 9 = .ok (.iconst 0, 1) := by decide +kernel
theorem dX9_isAsked_10 : decode cX9_isAsked 10 = .ok (.goto 4, 3) := by decide +kernel
theorem dX9_isAsked_13 : decode cX9_isAsked 13 = .ok (.iconst 1, 1) := by decide +kernel
theorem dX9_isAsked_14 : decode cX9_isAsked 14 = .ok (.putfield 41, 3) := by decide +kernel
theorem dX9_isAsked_17 : decode cX9_isAsked 17 = .ok (.aload_n 0, 1) := by decide +kernel
theorem dX9_isAsked_18 : decode cX9_isAsked 18 = .ok (.getfield 41, 3) := by decide +kernel
theorem dX9_isAsked_21 : decode cX9_isAsked 21 = .ok (.ifCond .ne 7, 3) := by decide +kernel
theorem dX9_isAsked_24 : decode cX9_isAsked 24 = .ok (.iconst 1, 1) := by decide +kernel
theorem dX9_isAsked_25 : decode cX9_isAsked 25 = .ok (.goto 4, 3) := by decide +kernel
theorem dX9_isAsked_28 : decode cX9_isAsked 28 = .ok (.iconst 0, 1) := by decide +kernel
theorem dX9_isAsked_29 : decode cX9_isAsked 29 = .ok (.ireturn, 1) := by decide +kernel
theorem dX9_position_0 : decode cX9_position 0 = .ok (.aload_n 0, 1) := by decide +kernel
theorem dX9_position_1 : decode cX9_position 1 = .ok (.iload_n 1, 1) := by decide +kernel
theorem dX9_position_2 : decode cX9_position 2 = .ok (.invokevirtual 140, 3) := by decide +kernel
theorem dX9_position_5 : decode cX9_position 5 = .ok (.ifCond .eq 11, 3) := by decide +kernel
theorem dX9_position_8 : decode cX9_position 8 = .ok (.aload_n 0, 1) := by decide +kernel
theorem dX9_position_9 : decode cX9_position 9 = .ok (.iload_n 1, 1) := by decide +kernel
theorem dX9_position_10 : decode cX9_position 10 = .ok (.invokevirtual 68, 3) := by decide +kernel
theorem dX9_position_13 : decode cX9_position 13 = .ok (.goto 4, 3) := by decide +kernel
theorem dX9_position_16 : decode cX9_position 16 = .ok (.iconst 0, 1) := by decide +kernel
theorem dX9_position_17 : decode cX9_position 17 = .ok (.ireturn, 1) := by decide +kernel
theorem dX9_opening_0 : decode cX9_opening 0 = .ok (.aload_n 0, 1) := by decide +kernel
theorem dX9_opening_1 : decode cX9_opening 1 = .ok (.iload_n 1, 1) := by decide +kernel
theorem dX9_opening_2 : decode cX9_opening 2 = .ok (.invokevirtual 140, 3) := by decide +kernel
theorem dX9_opening_5 : decode cX9_opening 5 = .ok (.ifCond .eq 11, 3) := by decide +kernel
theorem dX9_opening_8 : decode cX9_opening 8 = .ok (.aload_n 0, 1) := by decide +kernel
theorem dX9_opening_9 : decode cX9_opening 9 = .ok (.iload_n 1, 1) := by decide +kernel
theorem dX9_opening_10 : decode cX9_opening 10 = .ok (.invokevirtual 61, 3) := by decide +kernel
theorem dX9_opening_13 : decode cX9_opening 13 = .ok (.goto 4, 3) := by decide +kernel
theorem dX9_opening_16 : decode cX9_opening 16 = .ok (.iconst 0, 1) := by decide +kernel
theorem dX9_opening_17 : decode cX9_opening 17 = .ok (.ireturn, 1) := by decide +kernel
theorem dX9_height_0 : decode cX9_height 0 = .ok (.aload_n 0, 1) := by decide +kernel
theorem dX9_height_1 : decode cX9_height 1 = .ok (.iload_n 1, 1) := by decide +kernel
theorem dX9_height_2 : decode cX9_height 2 = .ok (.invokevirtual 140, 3) := by decide +kernel
theorem dX9_height_5 : decode cX9_height 5 = .ok (.ifCond .eq 11, 3) := by decide +kernel
theorem dX9_height_8 : decode cX9_height 8 = .ok (.aload_n 0, 1) := by decide +kernel
theorem dX9_height_9 : decode cX9_height 9 = .ok (.iload_n 1, 1) := by decide +kernel
theorem dX9_height_10 : decode cX9_height 10 = .ok (.invokevirtual 71, 3) := by decide +kernel
theorem dX9_height_13 : decode cX9_height 13 = .ok (.goto 4, 3) := by decide +kernel
theorem dX9_height_16 : decode cX9_height 16 = .ok (.iconst 0, 1) := by decide +kernel
theorem dX9_height_17 : decode cX9_height 17 = .ok (.ireturn, 1) := by decide +kernel
theorem dX9_landing_0 : decode cX9_landing 0 = .ok (.aload_n 0, 1) := by decide +kernel
theorem dX9_landing_1 : decode cX9_landing 1 = .ok (.iload_n 1, 1) := by decide +kernel
theorem dX9_landing_2 : decode cX9_landing 2 = .ok (.invokevirtual 140, 3) := by decide +kernel
theorem dX9_landing_5 : decode cX9_landing 5 = .ok (.ifCond .eq 11, 3) := by decide +kernel
theorem dX9_landing_8 : decode cX9_landing 8 = .ok (.aload_n 0, 1) := by decide +kernel
theorem dX9_landing_9 : decode cX9_landing 9 = .ok (.iload_n 1, 1) := by decide +kernel
theorem dX9_landing_10 : decode cX9_landing 10 = .ok (.invokevirtual 74, 3) := by decide +kernel
theorem dX9_landing_13 : decode cX9_landing 13 = .ok (.goto 4, 3) := by decide +kernel
theorem dX9_landing_16 : decode cX9_landing 16 = .ok (.iconst 0, 1) := by decide +kernel
theorem dX9_landing_17 : decode cX9_landing 17 = .ok (.ireturn, 1) := by decide +kernel
theorem dX9_isWild_0 : decode cX9_isWild 0 = .ok (.aload_n 0, 1) := by decide +kernel
theorem dX9_isWild_1 : decode cX9_isWild 1 = .ok (.iload_n 1, 1) := by decide +kernel
theorem dX9_isWild_2 : decode cX9_isWild 2 = .ok (.invokevirtual 140, 3) := by decide +kernel
theorem dX9_isWild_5 : decode cX9_isWild 5 = .ok (.ifCond .eq 15, 3) := by decide +kernel
theorem dX9_isWild_8 : decode cX9_isWild 8 = .ok (.aload_n 0, 1) := by decide +kernel
theorem dX9_isWild_9 : decode cX9_isWild 9 = .ok (.iload_n 1, 1) := by decide +kernel
theorem dX9_isWild_10 : decode cX9_isWild 10 = .ok (.invokevirtual 98, 3) := by decide +kernel
theorem dX9_isWild_13 : decode cX9_isWild 13 = .ok (.ifCond .eq 7, 3) := by decide +kernel
theorem dX9_isWild_16 : decode cX9_isWild 16 = .ok (.iconst 1, 1) := by decide +kernel
theorem dX9_isWild_17 : decode cX9_isWild 17 = .ok (.goto 4, 3) := by decide +kernel
theorem dX9_isWild_20 : decode cX9_isWild 20 = .ok (.iconst 0, 1) := by decide +kernel
theorem dX9_isWild_21 : decode cX9_isWild 21 = .ok (.ireturn, 1) := by decide +kernel
theorem dX9_wildCount_0 : decode cX9_wildCount 0 = .ok (.aload_n 0, 1) := by decide +kernel
theorem dX9_wildCount_1 : decode cX9_wildCount 1 = .ok (.iconst 0, 1) := by decide +kernel
theorem dX9_wildCount_2 : decode cX9_wildCount 2 = .ok (.putfield 41, 3) := by decide +kernel
theorem dX9_wildCount_5 : decode cX9_wildCount 5 = .ok (.iconst 0, 1) := by decide +kernel
theorem dX9_wildCount_6 : decode cX9_wildCount 6 = .ok (.istore_n 1, 1) := by decide +kernel
theorem dX9_wildCount_7 : decode cX9_wildCount 7 = .ok (.iconst 0, 1) := by decide +kernel
theorem dX9_wildCount_8 : decode cX9_wildCount 8 = .ok (.istore_n 2, 1) := by decide +kernel
theorem dX9_wildCount_9 : decode cX9_wildCount 9 = .ok (.iload_n 2, 1) := by decide +kernel
theorem dX9_wildCount_10 : decode cX9_wildCount 10 = .ok (.aload_n 0, 1) := by decide +kernel
theorem dX9_wildCount_11 : decode cX9_wildCount 11 = .ok (.getfield 7, 3) := by decide +kernel
theorem dX9_wildCount_14 : decode cX9_wildCount 14 = .ok (.iconst 0, 1) := by decide +kernel
theorem dX9_wildCount_15 : decode cX9_wildCount 15 = .ok (.iaload, 1) := by decide +kernel
theorem dX9_wildCount_16 : decode cX9_wildCount 16 = .ok (.if_icmp .ge 25, 3) := by decide +kernel
theorem dX9_wildCount_19 : decode cX9_wildCount 19 = .ok (.iload_n 1, 1) := by decide +kernel
theorem dX9_wildCount_20 : decode cX9_wildCount 20 = .ok (.aload_n 0, 1) := by decide +kernel
theorem dX9_wildCount_21 : decode cX9_wildCount 21 = .ok (.iload_n 2, 1) := by decide +kernel
theorem dX9_wildCount_22 : decode cX9_wildCount 22 = .ok (.invokevirtual 98, 3) := by decide +kernel
theorem dX9_wildCount_25 : decode cX9_wildCount 25 = .ok (.ifCond .eq 7, 3) := by decide +kernel
theorem dX9_wildCount_28 : decode cX9_wildCount 28 = .ok (.iconst 1, 1) := by decide +kernel
theorem dX9_wildCount_29 : decode cX9_wildCount 29 = .ok (.goto 4, 3) := by decide +kernel
theorem dX9_wildCount_32 : decode cX9_wildCount 32 = .ok (.iconst 0, 1) := by decide +kernel
theorem dX9_wildCount_33 : decode cX9_wildCount 33 = .ok (.iadd, 1) := by decide +kernel
theorem dX9_wildCount_34 : decode cX9_wildCount 34 = .ok (.istore_n 1, 1) := by decide +kernel
theorem dX9_wildCount_35 : decode cX9_wildCount 35 = .ok (.iinc 2 1, 3) := by decide +kernel
theorem dX9_wildCount_38 : decode cX9_wildCount 38 = .ok (.goto (-29), 3) := by decide +kernel
theorem dX9_wildCount_41 : decode cX9_wildCount 41 = .ok (.iload_n 1, 1) := by decide +kernel
theorem dX9_wildCount_42 : decode cX9_wildCount 42 = .ok (.ireturn, 1) := by decide +kernel
theorem dX9_highestJet_0 : decode cX9_highestJet 0 = .ok (.aload_n 0, 1) := by decide +kernel
theorem dX9_highestJet_1 : decode cX9_highestJet 1 = .ok (.aload_n 0, 1) := by decide +kernel
theorem dX9_highestJet_2 : decode cX9_highestJet 2 = .ok (.getfield 7, 3) := by decide +kernel
theorem dX9_highestJet_5 : decode cX9_highestJet 5 = .ok (.iconst 0, 1) := by decide +kernel
theorem dX9_highestJet_6 : decode cX9_highestJet 6 = .ok (.iaload, 1) := by decide +kernel
theorem dX9_highestJet_7 : decode cX9_highestJet 7 = .ok (.ifCond .ne 7, 3) := by decide +kernel
theorem dX9_highestJet_10 : decode cX9_highestJet 10 = .ok (.iconst 1, 1) := by decide +kernel
theorem dX9_highestJet_11 : decode cX9_highestJet 11 = .ok (.goto 4, 3) := by decide +kernel
theorem dX9_highestJet_14 : decode cX9_highestJet 14 = .ok (.iconst 0, 1) := by decide +kernel
theorem dX9_highestJet_15 : decode cX9_highestJet 15 = .ok (.putfield 41, 3) := by decide +kernel
theorem dX9_highestJet_18 : decode cX9_highestJet 18 = .ok (.iconst 0, 1) := by decide +kernel
theorem dX9_highestJet_19 : decode cX9_highestJet 19 = .ok (.istore_n 1, 1) := by decide +kernel
theorem dX9_highestJet_20 : decode cX9_highestJet 20 = .ok (.iconst 1, 1) := by decide +kernel
theorem dX9_highestJet_21 : decode cX9_highestJet 21 = .ok (.istore_n 2, 1) := by decide +kernel
theorem dX9_highestJet_22 : decode cX9_highestJet 22 = .ok (.iload_n 2, 1) := by decide +kernel
theorem dX9_highestJet_23 : decode cX9_highestJet 23 = .ok (.aload_n 0, 1) := by decide +kernel
theorem dX9_highestJet_24 : decode cX9_highestJet 24 = .ok (.getfield 7, 3) := by decide +kernel
theorem dX9_highestJet_27 : decode cX9_highestJet 27 = .ok (.iconst 0, 1) := by decide +kernel
theorem dX9_highestJet_28 : decode cX9_highestJet 28 = .ok (.iaload, 1) := by decide +kernel
theorem dX9_highestJet_29 : decode cX9_highestJet 29 = .ok (.if_icmp .ge 28, 3) := by decide +kernel
theorem dX9_highestJet_32 : decode cX9_highestJet 32 = .ok (.aload_n 0, 1) := by decide +kernel
theorem dX9_highestJet_33 : decode cX9_highestJet 33 = .ok (.iload_n 2, 1) := by decide +kernel
theorem dX9_highestJet_34 : decode cX9_highestJet 34 = .ok (.invokevirtual 71, 3) := by decide +kernel
theorem dX9_highestJet_37 : decode cX9_highestJet 37 = .ok (.aload_n 0, 1) := by decide +kernel
theorem dX9_highestJet_38 : decode cX9_highestJet 38 = .ok (.iload_n 1, 1) := by decide +kernel
theorem dX9_highestJet_39 : decode cX9_highestJet 39 = .ok (.invokevirtual 71, 3) := by decide +kernel
theorem dX9_highestJet_42 : decode cX9_highestJet 42 = .ok (.if_icmp .le 7, 3) := by decide +kernel
theorem dX9_highestJet_45 : decode cX9_highestJet 45 = .ok (.iload_n 2, 1) := by decide +kernel
theorem dX9_highestJet_46 : decode cX9_highestJet 46 = .ok (.goto 4, 3) := by decide +kernel
theorem dX9_highestJet_49 : decode cX9_highestJet 49 = .ok (.iload_n 1, 1) := by decide +kernel
theorem dX9_highestJet_50 : decode cX9_highestJet 50 = .ok (.istore_n 1, 1) := by decide +kernel
theorem dX9_highestJet_51 : decode cX9_highestJet 51 = .ok (.iinc 2 1, 3) := by decide +kernel
theorem dX9_highestJet_54 : decode cX9_highestJet 54 = .ok (.goto (-32), 3) := by decide +kernel
theorem dX9_highestJet_57 : decode cX9_highestJet 57 = .ok (.iload_n 1, 1) := by decide +kernel
theorem dX9_highestJet_58 : decode cX9_highestJet 58 = .ok (.ireturn, 1) := by decide +kernel
theorem dX9_jetByPosition_0 : decode cX9_jetByPosition 0 = .ok (.aload_n 0, 1) := by decide +kernel
theorem dX9_jetByPosition_1 : decode cX9_jetByPosition 1 = .ok (.iconst 0, 1) := by decide +kernel
theorem dX9_jetByPosition_2 : decode cX9_jetByPosition 2 = .ok (.putfield 41, 3) := by decide +kernel
theorem dX9_jetByPosition_5 : decode cX9_jetByPosition 5 = .ok (.iconst 0, 1) := by decide +kernel
theorem dX9_jetByPosition_6 : decode cX9_jetByPosition 6 = .ok (.istore_n 2, 1) := by decide +kernel
theorem dX9_jetByPosition_7 : decode cX9_jetByPosition 7 = .ok (.iload_n 2, 1) := by decide +kernel
theorem dX9_jetByPosition_8 : decode cX9_jetByPosition 8 = .ok (.aload_n 0, 1) := by decide +kernel
theorem dX9_jetByPosition_9 : decode cX9_jetByPosition 9 = .ok (.getfield 7, 3) := by decide +kernel
theorem dX9_jetByPosition_12 : decode cX9_jetByPosition 12 = .ok (.iconst 0, 1) := by decide +kernel
theorem dX9_jetByPosition_13 : decode cX9_jetByPosition 13 = .ok (.iaload, 1) := by decide +kernel
theorem dX9_jetByPosition_14 : decode cX9_jetByPosition 14 = .ok (.if_icmp .ge 60, 3) := by decide +kernel
theorem dX9_jetByPosition_17 : decode cX9_jetByPosition 17 = .ok (.iconst 0, 1) := by decide +kernel
theorem dX9_jetByPosition_18 : decode cX9_jetByPosition 18 = .ok (.istore_n 3, 1) := by decide +kernel
theorem dX9_jetByPosition_19 : decode cX9_jetByPosition 19 = .ok (.iconst 0, 1) := by decide +kernel
theorem dX9_jetByPosition_20 : decode cX9_jetByPosition 20 = .ok (.istore 4, 2) := by decide +kernel
theorem dX9_jetByPosition_22 : decode cX9_jetByPosition 22 = .ok (.iload 4, 2) := by decide +kernel
theorem dX9_jetByPosition_24 : decode cX9_jetByPosition 24 = .ok (.aload_n 0, 1) := by decide +kernel
theorem dX9_jetByPosition_25 : decode cX9_jetByPosition 25 = .ok (.getfield 7, 3) := by decide +kernel
theorem dX9_jetByPosition_28 : decode cX9_jetByPosition 28 = .ok (.iconst 0, 1) := by decide +kernel
theorem dX9_jetByPosition_29 : decode cX9_jetByPosition 29 = .ok (.iaload, 1) := by decide +kernel
theorem dX9_jetByPosition_30 : decode cX9_jetByPosition 30 = .ok (.if_icmp .ge 31, 3) := by decide +kernel
theorem dX9_jetByPosition_33 : decode cX9_jetByPosition 33 = .ok (.iload_n 3, 1) := by decide +kernel
theorem dX9_jetByPosition_34 : decode cX9_jetByPosition 34 = .ok (.aload_n 0, 1) := by decide +kernel
theorem dX9_jetByPosition_35 : decode cX9_jetByPosition 35 = .ok (.iload 4, 2) := by decide +kernel
theorem dX9_jetByPosition_37 : decode cX9_jetByPosition 37 = .ok (.invokevirtual 68, 3) := by decide +kernel
theorem dX9_jetByPosition_40 : decode cX9_jetByPosition 40 = .ok (.aload_n 0, 1) := by decide +kernel
theorem dX9_jetByPosition_41 : decode cX9_jetByPosition 41 = .ok (.iload_n 2, 1) := by decide +kernel
theorem dX9_jetByPosition_42 : decode cX9_jetByPosition 42 = .ok (.invokevirtual 68, 3) := by decide +kernel
theorem dX9_jetByPosition_45 : decode cX9_jetByPosition 45 = .ok (.if_icmp .ge 7, 3) := by decide +kernel
theorem dX9_jetByPosition_48 : decode cX9_jetByPosition 48 = .ok (.iconst 1, 1) := by decide +kernel
theorem dX9_jetByPosition_49 : decode cX9_jetByPosition 49 = .ok (.goto 4, 3) := by decide +kernel
theorem dX9_jetByPosition_52 : decode cX9_jetByPosition 52 = .ok (.iconst 0, 1) := by decide +kernel
theorem dX9_jetByPosition_53 : decode cX9_jetByPosition 53 = .ok (.iadd, 1) := by decide +kernel
theorem dX9_jetByPosition_54 : decode cX9_jetByPosition 54 = .ok (.istore_n 3, 1) := by decide +kernel
theorem dX9_jetByPosition_55 : decode cX9_jetByPosition 55 = .ok (.iinc 4 1, 3) := by decide +kernel
theorem dX9_jetByPosition_58 : decode cX9_jetByPosition 58 = .ok (.goto (-36), 3) := by decide +kernel
theorem dX9_jetByPosition_61 : decode cX9_jetByPosition 61 = .ok (.iload_n 3, 1) := by decide +kernel
theorem dX9_jetByPosition_62 : decode cX9_jetByPosition 62 = .ok (.iload_n 1, 1) := by decide +kernel
theorem dX9_jetByPosition_63 : decode cX9_jetByPosition 63 = .ok (.if_icmp .ne 5, 3) := by decide +kernel
theorem dX9_jetByPosition_66 : decode cX9_jetByPosition 66 = .ok (.iload_n 2, 1) := by decide +kernel
theorem dX9_jetByPosition_67 : decode cX9_jetByPosition 67 = .ok (.ireturn, 1) := by decide +kernel
theorem dX9_jetByPosition_68 : decode cX9_jetByPosition 68 = .ok (.iinc 2 1, 3) := by decide +kernel
theorem dX9_jetByPosition_71 : decode cX9_jetByPosition 71 = .ok (.goto (-64), 3) := by decide +kernel
theorem dX9_jetByPosition_74 : decode cX9_jetByPosition 74 = .ok (.aload_n 0, 1) := by decide +kernel
theorem dX9_jetByPosition_75 : decode cX9_jetByPosition 75 = .ok (.iconst 1, 1) := by decide +kernel
theorem dX9_jetByPosition_76 : decode cX9_jetByPosition 76 = .ok (.invokevirtual 54, 3) := by decide +kernel
theorem dX9_jetByPosition_79 : decode cX9_jetByPosition 79 = .ok (.ireturn, 1) := by decide +kernel
theorem dX9_away_0 : decode cX9_away 0 = .ok (.aload_n 0, 1) := by decide +kernel
theorem dX9_away_1 : decode cX9_away 1 = .ok (.iload_n 1, 1) := by decide +kernel
theorem dX9_away_2 : decode cX9_away 2 = .ok (.invokevirtual 74, 3) := by decide +kernel
theorem dX9_away_5 : decode cX9_away 5 = .ok (.i2l, 1) := by decide +kernel
theorem dX9_away_6 : decode cX9_away 6 = .ok (.iload_n 2, 1) := by decide +kernel
theorem dX9_away_7 : decode cX9_away 7 = .ok (.i2l, 1) := by decide +kernel
theorem dX9_away_8 : decode cX9_away 8 = .ok (.lsub, 1) := by decide +kernel
theorem dX9_away_9 : decode cX9_away 9 = .ok (.lstore_n 3, 1) := by decide +kernel
theorem dX9_away_10 : decode cX9_away 10 = .ok (.lload_n 3, 1) := by decide +kernel
theorem dX9_away_11 : decode cX9_away 11 = .ok (.lconst 0, 1) := by decide +kernel
theorem dX9_away_12 : decode cX9_away 12 = .ok (.lcmp, 1) := by decide +kernel
theorem dX9_away_13 : decode cX9_away 13 = .ok (.ifCond .ge 8, 3) := by decide +kernel
theorem dX9_away_16 : decode cX9_away 16 = .ok (.lload_n 3, 1) := by decide +kernel
theorem dX9_away_17 : decode cX9_away 17 = .ok (.lneg, 1) := by decide +kernel
theorem dX9_away_18 : decode cX9_away 18 = .ok (.goto 4, 3) := by decide +kernel
theorem dX9_away_21 : decode cX9_away 21 = .ok (.lload_n 3, 1) := by decide +kernel
theorem dX9_away_22 : decode cX9_away 22 = .ok (.lreturn, 1) := by decide +kernel
theorem dX9_nearestLanding_0 : decode cX9_nearestLanding 0 = .ok (.aload_n 0, 1) := by decide +kernel
theorem dX9_nearestLanding_1 : decode cX9_nearestLanding 1 = .ok (.aload_n 0, 1) := by decide +kernel
theorem dX9_nearestLanding_2 : decode cX9_nearestLanding 2 = .ok (.getfield 7, 3) := by decide +kernel
theorem dX9_nearestLanding_5 : decode cX9_nearestLanding 5 = .ok (.iconst 0, 1) := by decide +kernel
theorem dX9_nearestLanding_6 : decode cX9_nearestLanding 6 = .ok (.iaload, 1) := by decide +kernel
theorem dX9_nearestLanding_7 : decode cX9_nearestLanding 7 = .ok (.ifCond .ne 7, 3) := by decide +kernel
theorem dX9_nearestLanding_10 : decode cX9_nearestLanding 10 = .ok (.iconst 1, 1) := by decide +kernel
theorem dX9_nearestLanding_11 : decode cX9_nearestLanding 11 = .ok (.goto 4, 3) := by decide +kernel
theorem dX9_nearestLanding_14 : decode cX9_nearestLanding 14 = .ok (.iconst 0, 1) := by decide +kernel
theorem dX9_nearestLanding_15 : decode cX9_nearestLanding 15 = .ok (.putfield 41, 3) := by decide +kernel
theorem dX9_nearestLanding_18 : decode cX9_nearestLanding 18 = .ok (.iconst 0, 1) := by decide +kernel
theorem dX9_nearestLanding_19 : decode cX9_nearestLanding 19 = .ok (.istore_n 2, 1) := by decide +kernel
theorem dX9_nearestLanding_20 : decode cX9_nearestLanding 20 = .ok (.iconst 1, 1) := by decide +kernel
theorem dX9_nearestLanding_21 : decode cX9_nearestLanding 21 = .ok (.istore_n 3, 1) := by decide +kernel
theorem dX9_nearestLanding_22 : decode cX9_nearestLanding 22 = .ok (.iload_n 3, 1) := by decide +kernel
theorem dX9_nearestLanding_23 : decode cX9_nearestLanding 23 = .ok (.aload_n 0, 1) := by decide +kernel
theorem dX9_nearestLanding_24 : decode cX9_nearestLanding 24 = .ok (.getfield 7, 3) := by decide +kernel
theorem dX9_nearestLanding_27 : decode cX9_nearestLanding 27 = .ok (.iconst 0, 1) := by decide +kernel
theorem dX9_nearestLanding_28 : decode cX9_nearestLanding 28 = .ok (.iaload, 1) := by decide +kernel
theorem dX9_nearestLanding_29 : decode cX9_nearestLanding 29 = .ok (.if_icmp .ge 31, 3) := by decide +kernel
theorem dX9_nearestLanding_32 : decode cX9_nearestLanding 32 = .ok (.aload_n 0, 1) := by decide +kernel
theorem dX9_nearestLanding_33 : decode cX9_nearestLanding 33 = .ok (.iload_n 3, 1) := by decide +kernel
theorem dX9_nearestLanding_34 : decode cX9_nearestLanding 34 = .ok (.iload_n 1, 1) := by decide +kernel
theorem dX9_nearestLanding_35 : decode cX9_nearestLanding 35 = .ok (.invokevirtual 143, 3) := by decide +kernel
theorem dX9_nearestLanding_38 : decode cX9_nearestLanding 38 = .ok (.aload_n 0, 1) := by decide +kernel
theorem dX9_nearestLanding_39 : decode cX9_nearestLanding 39 = .ok (.iload_n 2, 1) := by decide +kernel
theorem dX9_nearestLanding_40 : decode cX9_nearestLanding 40 = .ok (.iload_n 1, 1) := by decide +kernel
theorem dX9_nearestLanding_41 : decode cX9_nearestLanding 41 = .ok (.invokevirtual 143, 3) := by decide +kernel
theorem dX9_nearestLanding_44 : decode cX9_nearestLanding 44 = .ok (.lcmp, 1) := by decide +kernel
theorem dX9_nearestLanding_45 : decode cX9_nearestLanding 45 = .ok (.ifCond .ge 7, 3) := by decide +kernel
theorem dX9_nearestLanding_48 : decode cX9_nearestLanding 48 = .ok (.iload_n 3, 1) := by decide +kernel
theorem dX9_nearestLanding_49 : decode cX9_nearestLanding 49 = .ok (.goto 4, 3) := by decide +kernel
theorem dX9_nearestLanding_52 : decode cX9_nearestLanding 52 = .ok (.iload_n 2, 1) := by decide +kernel
theorem dX9_nearestLanding_53 : decode cX9_nearestLanding 53 = .ok (.istore_n 2, 1) := by decide +kernel
theorem dX9_nearestLanding_54 : decode cX9_nearestLanding 54 = .ok (.iinc 3 1, 3) := by decide +kernel
theorem dX9_nearestLanding_57 : decode cX9_nearestLanding 57 = .ok (.goto (-35), 3) := by decide +kernel
theorem dX9_nearestLanding_60 : decode cX9_nearestLanding 60 = .ok (.iload_n 2, 1) := by decide +kernel
theorem dX9_nearestLanding_61 : decode cX9_nearestLanding 61 = .ok (.ireturn, 1) := by decide +kernel
theorem dX9_crossings_0 : decode cX9_crossings 0 = .ok (.aload_n 0, 1) := by decide +kernel
theorem dX9_crossings_1 : decode cX9_crossings 1 = .ok (.iconst 0, 1) := by decide +kernel
theorem dX9_crossings_2 : decode cX9_crossings 2 = .ok (.putfield 41, 3) := by decide +kernel
theorem dX9_crossings_5 : decode cX9_crossings 5 = .ok (.iconst 0, 1) := by decide +kernel
theorem dX9_crossings_6 : decode cX9_crossings 6 = .ok (.istore_n 1, 1) := by decide +kernel
theorem dX9_crossings_7 : decode cX9_crossings 7 = .ok (.iconst 0, 1) := by decide +kernel
theorem dX9_crossings_8 : decode cX9_crossings 8 = .ok (.istore_n 2, 1) := by decide +kernel
theorem dX9_crossings_9 : decode cX9_crossings 9 = .ok (.iload_n 2, 1) := by decide +kernel
theorem dX9_crossings_10 : decode cX9_crossings 10 = .ok (.aload_n 0, 1) := by decide +kernel
theorem dX9_crossings_11 : decode cX9_crossings 11 = .ok (.getfield 7, 3) := by decide +kernel
theorem dX9_crossings_14 : decode cX9_crossings 14 = .ok (.iconst 0, 1) := by decide +kernel
theorem dX9_crossings_15 : decode cX9_crossings 15 = .ok (.iaload, 1) := by decide +kernel
theorem dX9_crossings_16 : decode cX9_crossings 16 = .ok (.if_icmp .ge 61, 3) := by decide +kernel
theorem dX9_crossings_19 : decode cX9_crossings 19 = .ok (.iconst 0, 1) := by decide +kernel
theorem dX9_crossings_20 : decode cX9_crossings 20 = .ok (.istore_n 3, 1) := by decide +kernel
theorem dX9_crossings_21 : decode cX9_crossings 21 = .ok (.iload_n 3, 1) := by decide +kernel
theorem dX9_crossings_22 : decode cX9_crossings 22 = .ok (.aload_n 0, 1) := by decide +kernel
theorem dX9_crossings_23 : decode cX9_crossings 23 = .ok (.getfield 7, 3) := by decide +kernel
theorem dX9_crossings_26 : decode cX9_crossings 26 = .ok (.iconst 0, 1) := by decide +kernel
theorem dX9_crossings_27 : decode cX9_crossings 27 = .ok (.iaload, 1) := by decide +kernel
theorem dX9_crossings_28 : decode cX9_crossings 28 = .ok (.if_icmp .ge 43, 3) := by decide +kernel
theorem dX9_crossings_31 : decode cX9_crossings 31 = .ok (.iload_n 1, 1) := by decide +kernel
theorem dX9_crossings_32 : decode cX9_crossings 32 = .ok (.aload_n 0, 1) := by decide +kernel
theorem dX9_crossings_33 : decode cX9_crossings 33 = .ok (.iload_n 2, 1) := by decide +kernel
theorem dX9_crossings_34 : decode cX9_crossings 34 = .ok (.invokevirtual 68, 3) := by decide +kernel
theorem dX9_crossings_37 : decode cX9_crossings 37 = .ok (.aload_n 0, 1) := by decide +kernel
theorem dX9_crossings_38 : decode cX9_crossings 38 = .ok (.iload_n 3, 1) := by decide +kernel
theorem dX9_crossings_39 : decode cX9_crossings 39 = .ok (.invokevirtual 68, 3) := by decide +kernel
theorem dX9_crossings_42 : decode cX9_crossings 42 = .ok (.if_icmp .ge 20, 3) := by decide +kernel
theorem dX9_crossings_45 : decode cX9_crossings 45 = .ok (.aload_n 0, 1) := by decide +kernel
theorem dX9_crossings_46 : decode cX9_crossings 46 = .ok (.iload_n 2, 1) := by decide +kernel
theorem dX9_crossings_47 : decode cX9_crossings 47 = .ok (.invokevirtual 74, 3) := by decide +kernel
theorem dX9_crossings_50 : decode cX9_crossings 50 = .ok (.aload_n 0, 1) := by decide +kernel
theorem dX9_crossings_51 : decode cX9_crossings 51 = .ok (.iload_n 3, 1) := by decide +kernel
theorem dX9_crossings_52 : decode cX9_crossings 52 = .ok (.invokevirtual 74, 3) := by decide +kernel
theorem dX9_crossings_55 : decode cX9_crossings 55 = .ok (.if_icmp .le 7, 3) := by decide +kernel
theorem dX9_crossings_58 : decode cX9_crossings 58 = .ok (.iconst 1, 1) := by decide +kernel
theorem dX9_crossings_59 : decode cX9_crossings 59 = .ok (.goto 4, 3) := by decide +kernel
theorem dX9_crossings_62 : decode cX9_crossings 62 = .ok (.iconst 0, 1) := by decide +kernel
theorem dX9_crossings_63 : decode cX9_crossings 63 = .ok (.iadd, 1) := by decide +kernel
theorem dX9_crossings_64 : decode cX9_crossings 64 = .ok (.istore_n 1, 1) := by decide +kernel
theorem dX9_crossings_65 : decode cX9_crossings 65 = .ok (.iinc 3 1, 3) := by decide +kernel
theorem dX9_crossings_68 : decode cX9_crossings 68 = .ok (.goto (-47), 3) := by decide +kernel
theorem dX9_crossings_71 : decode cX9_crossings 71 = .ok (.iinc 2 1, 3) := by decide +kernel
theorem dX9_crossings_74 : decode cX9_crossings 74 = .ok (.goto (-65), 3) := by decide +kernel
theorem dX9_crossings_77 : decode cX9_crossings 77 = .ok (.iload_n 1, 1) := by decide +kernel
theorem dX9_crossings_78 : decode cX9_crossings 78 = .ok (.ireturn, 1) := by decide +kernel
theorem dX9_crossingsByMerging_0 : decode cX9_crossingsByMerging 0 = .ok (.aload_n 0, 1) := by decide +kernel
theorem dX9_crossingsByMerging_1 : decode cX9_crossingsByMerging 1 = .ok (.invokevirtual 147, 3) := by decide +kernel
theorem dX9_crossingsByMerging_4 : decode cX9_crossingsByMerging 4 = .ok (.ireturn, 1) := by decide +kernel
theorem dX9_setCapacity_0 : decode cX9_setCapacity 0 = .ok (.aload_n 0, 1) := by decide +kernel
theorem dX9_setCapacity_1 : decode cX9_setCapacity 1 = .ok (.invokevirtual 124, 3) := by decide +kernel
theorem dX9_setCapacity_4 : decode cX9_setCapacity 4 = .ok (.aload_n 0, 1) := by decide +kernel
theorem dX9_setCapacity_5 : decode cX9_setCapacity 5 = .ok (.aload_n 0, 1) := by decide +kernel
theorem dX9_setCapacity_6 : decode cX9_setCapacity 6 = .ok (.iload_n 1, 1) := by decide +kernel
theorem dX9_setCapacity_7 : decode cX9_setCapacity 7 = .ok (.invokevirtual 150, 3) := by decide +kernel
theorem dX9_setCapacity_10 : decode cX9_setCapacity 10 = .ok (.invokevirtual 130, 3) := by decide +kernel
theorem dX9_setCapacity_13 : decode cX9_setCapacity 13 = .ok (.ireturn, 1) := by decide +kernel
theorem dX9_setWind_0 : decode cX9_setWind 0 = .ok (.aload_n 0, 1) := by decide +kernel
theorem dX9_setWind_1 : decode cX9_setWind 1 = .ok (.invokevirtual 124, 3) := by decide +kernel
theorem dX9_setWind_4 : decode cX9_setWind 4 = .ok (.aload_n 0, 1) := by decide +kernel
theorem dX9_setWind_5 : decode cX9_setWind 5 = .ok (.aload_n 0, 1) := by decide +kernel
theorem dX9_setWind_6 : decode cX9_setWind 6 = .ok (.iload_n 1, 1) := by decide +kernel
theorem dX9_setWind_7 : decode cX9_setWind 7 = .ok (.invokevirtual 153, 3) := by decide +kernel
theorem dX9_setWind_10 : decode cX9_setWind 10 = .ok (.invokevirtual 130, 3) := by decide +kernel
theorem dX9_setWind_13 : decode cX9_setWind 13 = .ok (.ireturn, 1) := by decide +kernel
theorem dX9_trim_0 : decode cX9_trim 0 = .ok (.aload_n 0, 1) := by decide +kernel
theorem dX9_trim_1 : decode cX9_trim 1 = .ok (.invokevirtual 124, 3) := by decide +kernel
theorem dX9_trim_4 : decode cX9_trim 4 = .ok (.aload_n 0, 1) := by decide +kernel
theorem dX9_trim_5 : decode cX9_trim 5 = .ok (.aload_n 0, 1) := by decide +kernel
theorem dX9_trim_6 : decode cX9_trim 6 = .ok (.invokevirtual 156, 3) := by decide +kernel
theorem dX9_trim_9 : decode cX9_trim 9 = .ok (.invokevirtual 130, 3) := by decide +kernel
theorem dX9_trim_12 : decode cX9_trim 12 = .ok (.ireturn, 1) := by decide +kernel
theorem dX9_capacity_0 : decode cX9_capacity 0 = .ok (.aload_n 0, 1) := by decide +kernel
theorem dX9_capacity_1 : decode cX9_capacity 1 = .ok (.iconst 0, 1) := by decide +kernel
theorem dX9_capacity_2 : decode cX9_capacity 2 = .ok (.putfield 41, 3) := by decide +kernel
theorem dX9_capacity_5 : decode cX9_capacity 5 = .ok (.aload_n 0, 1) := by decide +kernel
theorem dX9_capacity_6 : decode cX9_capacity 6 = .ok (.getfield 7, 3) := by decide +kernel
theorem dX9_capacity_9 : decode cX9_capacity 9 = .ok (.iconst 3, 1) := by decide +kernel
theorem dX9_capacity_10 : decode cX9_capacity 10 = .ok (.iaload, 1) := by decide +kernel
theorem dX9_capacity_11 : decode cX9_capacity 11 = .ok (.ireturn, 1) := by decide +kernel
theorem dX9_wind_0 : decode cX9_wind 0 = .ok (.aload_n 0, 1) := by decide +kernel
theorem dX9_wind_1 : decode cX9_wind 1 = .ok (.iconst 0, 1) := by decide +kernel
theorem dX9_wind_2 : decode cX9_wind 2 = .ok (.putfield 41, 3) := by decide +kernel
theorem dX9_wind_5 : decode cX9_wind 5 = .ok (.aload_n 0, 1) := by decide +kernel
theorem dX9_wind_6 : decode cX9_wind 6 = .ok (.getfield 7, 3) := by decide +kernel
theorem dX9_wind_9 : decode cX9_wind 9 = .ok (.iconst 4, 1) := by decide +kernel
theorem dX9_wind_10 : decode cX9_wind 10 = .ok (.iaload, 1) := by decide +kernel
theorem dX9_wind_11 : decode cX9_wind 11 = .ok (.ireturn, 1) := by decide +kernel
theorem dX9_demand_0 : decode cX9_demand 0 = .ok (.aload_n 0, 1) := by decide +kernel
theorem dX9_demand_1 : decode cX9_demand 1 = .ok (.iconst 0, 1) := by decide +kernel
theorem dX9_demand_2 : decode cX9_demand 2 = .ok (.putfield 41, 3) := by decide +kernel
theorem dX9_demand_5 : decode cX9_demand 5 = .ok (.aload_n 0, 1) := by decide +kernel
theorem dX9_demand_6 : decode cX9_demand 6 = .ok (.invokevirtual 64, 3) := by decide +kernel
theorem dX9_demand_9 : decode cX9_demand 9 = .ok (.ireturn, 1) := by decide +kernel
theorem dX9_supply_0 : decode cX9_supply 0 = .ok (.aload_n 0, 1) := by decide +kernel
theorem dX9_supply_1 : decode cX9_supply 1 = .ok (.iconst 0, 1) := by decide +kernel
theorem dX9_supply_2 : decode cX9_supply 2 = .ok (.putfield 41, 3) := by decide +kernel
theorem dX9_supply_5 : decode cX9_supply 5 = .ok (.aload_n 0, 1) := by decide +kernel
theorem dX9_supply_6 : decode cX9_supply 6 = .ok (.invokevirtual 118, 3) := by decide +kernel
theorem dX9_supply_9 : decode cX9_supply 9 = .ok (.ireturn, 1) := by decide +kernel
theorem dX9_pumped_0 : decode cX9_pumped 0 = .ok (.aload_n 0, 1) := by decide +kernel
theorem dX9_pumped_1 : decode cX9_pumped 1 = .ok (.iconst 0, 1) := by decide +kernel
theorem dX9_pumped_2 : decode cX9_pumped 2 = .ok (.putfield 41, 3) := by decide +kernel
theorem dX9_pumped_5 : decode cX9_pumped 5 = .ok (.aload_n 0, 1) := by decide +kernel
theorem dX9_pumped_6 : decode cX9_pumped 6 = .ok (.getfield 7, 3) := by decide +kernel
theorem dX9_pumped_9 : decode cX9_pumped 9 = .ok (.bipush 6, 2) := by decide +kernel
theorem dX9_pumped_11 : decode cX9_pumped 11 = .ok (.iaload, 1) := by decide +kernel
theorem dX9_pumped_12 : decode cX9_pumped 12 = .ok (.i2l, 1) := by decide +kernel
theorem dX9_pumped_13 : decode cX9_pumped 13 = .ok (.lreturn, 1) := by decide +kernel
theorem dX9_shortage_0 : decode cX9_shortage 0 = .ok (.aload_n 0, 1) := by decide +kernel
theorem dX9_shortage_1 : decode cX9_shortage 1 = .ok (.iconst 0, 1) := by decide +kernel
theorem dX9_shortage_2 : decode cX9_shortage 2 = .ok (.putfield 41, 3) := by decide +kernel
theorem dX9_shortage_5 : decode cX9_shortage 5 = .ok (.aload_n 0, 1) := by decide +kernel
theorem dX9_shortage_6 : decode cX9_shortage 6 = .ok (.getfield 7, 3) := by decide +kernel
theorem dX9_shortage_9 : decode cX9_shortage 9 = .ok (.bipush 7, 2) := by decide +kernel
theorem dX9_shortage_11 : decode cX9_shortage 11 = .ok (.iaload, 1) := by decide +kernel
theorem dX9_shortage_12 : decode cX9_shortage 12 = .ok (.i2l, 1) := by decide +kernel
theorem dX9_shortage_13 : decode cX9_shortage 13 = .ok (.lreturn, 1) := by decide +kernel
theorem dX9_addFigure_0 : decode cX9_addFigure 0 = .ok (.aload_n 0, 1) := by decide +kernel
theorem dX9_addFigure_1 : decode cX9_addFigure 1 = .ok (.invokevirtual 124, 3) := by decide +kernel
theorem dX9_addFigure_4 : decode cX9_addFigure 4 = .ok (.aload_n 0, 1) := by decide +kernel
theorem dX9_addFigure_5 : decode cX9_addFigure 5 = .ok (.aload_n 0, 1) := by decide +kernel
theorem dX9_addFigure_6 : decode cX9_addFigure 6 = .ok (.invokevirtual 159, 3) := by decide +kernel
theorem dX9_addFigure_9 : decode cX9_addFigure 9 = .ok (.invokevirtual 130, 3) := by decide +kernel
theorem dX9_addFigure_12 : decode cX9_addFigure 12 = .ok (.ireturn, 1) := by decide +kernel
theorem dX9_removeFigure_0 : decode cX9_removeFigure 0 = .ok (.aload_n 0, 1) := by decide +kernel
theorem dX9_removeFigure_1 : decode cX9_removeFigure 1 = .ok (.invokevirtual 124, 3) := by decide +kernel
theorem dX9_removeFigure_4 : decode cX9_removeFigure 4 = .ok (.aload_n 0, 1) := by decide +kernel
theorem dX9_removeFigure_5 : decode cX9_removeFigure 5 = .ok (.aload_n 0, 1) := by decide +kernel
theorem dX9_removeFigure_6 : decode cX9_removeFigure 6 = .ok (.iload_n 1, 1) := by decide +kernel
theorem dX9_removeFigure_7 : decode cX9_removeFigure 7 = .ok (.invokevirtual 162, 3) := by decide +kernel
theorem dX9_removeFigure_10 : decode cX9_removeFigure 10 = .ok (.invokevirtual 130, 3) := by decide +kernel
theorem dX9_removeFigure_13 : decode cX9_removeFigure 13 = .ok (.ireturn, 1) := by decide +kernel
theorem dX9_addStep_0 : decode cX9_addStep 0 = .ok (.aload_n 0, 1) := by decide +kernel
theorem dX9_addStep_1 : decode cX9_addStep 1 = .ok (.invokevirtual 124, 3) := by decide +kernel
theorem dX9_addStep_4 : decode cX9_addStep 4 = .ok (.aload_n 0, 1) := by decide +kernel
theorem dX9_addStep_5 : decode cX9_addStep 5 = .ok (.aload_n 0, 1) := by decide +kernel
theorem dX9_addStep_6 : decode cX9_addStep 6 = .ok (.iload_n 1, 1) := by decide +kernel
theorem dX9_addStep_7 : decode cX9_addStep 7 = .ok (.iload_n 2, 1) := by decide +kernel
theorem dX9_addStep_8 : decode cX9_addStep 8 = .ok (.iload_n 3, 1) := by decide +kernel
theorem dX9_addStep_9 : decode cX9_addStep 9 = .ok (.iload 4, 2) := by decide +kernel
theorem dX9_addStep_11 : decode cX9_addStep 11 = .ok (.invokevirtual 165, 3) := by decide +kernel
theorem dX9_addStep_14 : decode cX9_addStep 14 = .ok (.invokevirtual 130, 3) := by decide +kernel
theorem dX9_addStep_17 : decode cX9_addStep 17 = .ok (.ireturn, 1) := by decide +kernel
theorem dX9_removeStep_0 : decode cX9_removeStep 0 = .ok (.aload_n 0, 1) := by decide +kernel
theorem dX9_removeStep_1 : decode cX9_removeStep 1 = .ok (.invokevirtual 124, 3) := by decide +kernel
theorem dX9_removeStep_4 : decode cX9_removeStep 4 = .ok (.aload_n 0, 1) := by decide +kernel
theorem dX9_removeStep_5 : decode cX9_removeStep 5 = .ok (.aload_n 0, 1) := by decide +kernel
theorem dX9_removeStep_6 : decode cX9_removeStep 6 = .ok (.iload_n 1, 1) := by decide +kernel
theorem dX9_removeStep_7 : decode cX9_removeStep 7 = .ok (.iload_n 2, 1) := by decide +kernel
theorem dX9_removeStep_8 : decode cX9_removeStep 8 = .ok (.invokevirtual 169, 3) := by decide +kernel
theorem dX9_removeStep_11 : decode cX9_removeStep 11 = .ok (.invokevirtual 130, 3) := by decide +kernel
theorem dX9_removeStep_14 : decode cX9_removeStep 14 = .ok (.ireturn, 1) := by decide +kernel
theorem dX9_figureCount_0 : decode cX9_figureCount 0 = .ok (.aload_n 0, 1) := by decide +kernel
theorem dX9_figureCount_1 : decode cX9_figureCount 1 = .ok (.iconst 0, 1) := by decide +kernel
theorem dX9_figureCount_2 : decode cX9_figureCount 2 = .ok (.putfield 41, 3) := by decide +kernel
theorem dX9_figureCount_5 : decode cX9_figureCount 5 = .ok (.aload_n 0, 1) := by decide +kernel
theorem dX9_figureCount_6 : decode cX9_figureCount 6 = .ok (.getfield 7, 3) := by decide +kernel
theorem dX9_figureCount_9 : decode cX9_figureCount 9 = .ok (.iconst 1, 1) := by decide +kernel
theorem dX9_figureCount_10 : decode cX9_figureCount 10 = .ok (.iaload, 1) := by decide +kernel
theorem dX9_figureCount_11 : decode cX9_figureCount 11 = .ok (.ireturn, 1) := by decide +kernel
theorem dX9_stepCount_0 : decode cX9_stepCount 0 = .ok (.aload_n 0, 1) := by decide +kernel
theorem dX9_stepCount_1 : decode cX9_stepCount 1 = .ok (.aload_n 0, 1) := by decide +kernel
theorem dX9_stepCount_2 : decode cX9_stepCount 2 = .ok (.iload_n 1, 1) := by decide +kernel
theorem dX9_stepCount_3 : decode cX9_stepCount 3 = .ok (.invokevirtual 101, 3) := by decide +kernel
theorem dX9_stepCount_6 : decode cX9_stepCount 6 = .ok (.ifCond .eq 7, 3) := by decide +kernel
theorem dX9_stepCount_9 : decode cX9_stepCount 9 = .ok (.iconst 0, 1) := by decide +kernel
theorem dX9_stepCount_10 : decode cX9_stepCount 10 = .ok (.goto 4, 3) := by decide +kernel
theorem dX9_stepCount_13 : decode cX9_stepCount 13 = .ok (.iconst 1, 1) := by decide +kernel
theorem dX9_stepCount_14 : decode cX9_stepCount 14 = .ok (.putfield 41, 3) := by decide +kernel
theorem dX9_stepCount_17 : decode cX9_stepCount 17 = .ok (.aload_n 0, 1) := by decide +kernel
theorem dX9_stepCount_18 : decode cX9_stepCount 18 = .ok (.getfield 41, 3) := by decide +kernel
theorem dX9_stepCount_21 : decode cX9_stepCount 21 = .ok (.ifCond .le 7, 3) := by decide +kernel
theorem dX9_stepCount_24 : decode cX9_stepCount 24 = .ok (.iconst 0, 1) := by decide +kernel
theorem dX9_stepCount_25 : decode cX9_stepCount 25 = .ok (.goto 8, 3) := by decide +kernel
theorem dX9_stepCount_28 : decode cX9_stepCount 28 = .ok (.aload_n 0, 1) := by decide +kernel
theorem dX9_stepCount_29 : decode cX9_stepCount 29 = .ok (.iload_n 1, 1) := by decide +kernel
theorem dX9_stepCount_30 : decode cX9_stepCount 30 = .ok (.invokevirtual 77, 3) := by decide +kernel
theorem dX9_stepCount_33 : decode cX9_stepCount 33 = .ok (.ireturn, 1) := by decide +kernel
theorem dX9_askedStep_0 : decode cX9_askedStep 0 = .ok (.aload_n 0, 1) := by decide +kernel
theorem dX9_askedStep_1 : decode cX9_askedStep 1 = .ok (.aload_n 0, 1) := by decide +kernel
theorem dX9_askedStep_2 : decode cX9_askedStep 2 = .ok (.iload_n 1, 1) := by decide +kernel
theorem dX9_askedStep_3 : decode cX9_askedStep 3 = .ok (.iload_n 2, 1) := by decide +kernel
theorem dX9_askedStep_4 : decode cX9_askedStep 4 = .ok (.invokevirtual 104, 3) := by decide +kernel
theorem dX9_askedStep_7 : decode cX9_askedStep 7 = .ok (.ifCond .eq 7, 3) := by decide +kernel
theorem dX9_askedStep_10 : decode cX9_askedStep 10 = .ok (.iconst 0, 1) := by decide +kernel
theorem dX9_askedStep_11 : decode cX9_askedStep 11 = .ok (.goto 4, 3) := by decide +kernel
theorem dX9_askedStep_14 : decode cX9_askedStep 14 = .ok (.iconst 1, 1) := by decide +kernel
theorem dX9_askedStep_15 : decode cX9_askedStep 15 = .ok (.putfield 41, 3) := by decide +kernel
theorem dX9_askedStep_18 : decode cX9_askedStep 18 = .ok (.aload_n 0, 1) := by decide +kernel
theorem dX9_askedStep_19 : decode cX9_askedStep 19 = .ok (.getfield 41, 3) := by decide +kernel
theorem dX9_askedStep_22 : decode cX9_askedStep 22 = .ok (.ifCond .le 7, 3) := by decide +kernel
theorem dX9_askedStep_25 : decode cX9_askedStep 25 = .ok (.iconst 0, 1) := by decide +kernel
theorem dX9_askedStep_26 : decode cX9_askedStep 26 = .ok (.goto 10, 3) := by decide +kernel
theorem dX9_askedStep_29 : decode cX9_askedStep 29 = .ok (.aload_n 0, 1) := by decide +kernel
theorem dX9_askedStep_30 : decode cX9_askedStep 30 = .ok (.iload_n 1, 1) := by decide +kernel
theorem dX9_askedStep_31 : decode cX9_askedStep 31 = .ok (.iload_n 2, 1) := by decide +kernel
theorem dX9_askedStep_32 : decode cX9_askedStep 32 = .ok (.iload_n 3, 1) := by decide +kernel
theorem dX9_askedStep_33 : decode cX9_askedStep 33 = .ok (.invokevirtual 80, 3) := by decide +kernel
theorem dX9_askedStep_36 : decode cX9_askedStep 36 = .ok (.ireturn, 1) := by decide +kernel
theorem dX9_stepDelay_0 : decode cX9_stepDelay 0 = .ok (.aload_n 0, 1) := by decide +kernel
theorem dX9_stepDelay_1 : decode cX9_stepDelay 1 = .ok (.iload_n 1, 1) := by decide +kernel
theorem dX9_stepDelay_2 : decode cX9_stepDelay 2 = .ok (.iload_n 2, 1) := by decide +kernel
theorem dX9_stepDelay_3 : decode cX9_stepDelay 3 = .ok (.iconst 0, 1) := by decide +kernel
theorem dX9_stepDelay_4 : decode cX9_stepDelay 4 = .ok (.invokevirtual 172, 3) := by decide +kernel
theorem dX9_stepDelay_7 : decode cX9_stepDelay 7 = .ok (.ireturn, 1) := by decide +kernel
theorem dX9_stepJet_0 : decode cX9_stepJet 0 = .ok (.aload_n 0, 1) := by decide +kernel
theorem dX9_stepJet_1 : decode cX9_stepJet 1 = .ok (.iload_n 1, 1) := by decide +kernel
theorem dX9_stepJet_2 : decode cX9_stepJet 2 = .ok (.iload_n 2, 1) := by decide +kernel
theorem dX9_stepJet_3 : decode cX9_stepJet 3 = .ok (.iconst 1, 1) := by decide +kernel
theorem dX9_stepJet_4 : decode cX9_stepJet 4 = .ok (.invokevirtual 172, 3) := by decide +kernel
theorem dX9_stepJet_7 : decode cX9_stepJet 7 = .ok (.ireturn, 1) := by decide +kernel
theorem dX9_stepOpening_0 : decode cX9_stepOpening 0 = .ok (.aload_n 0, 1) := by decide +kernel
theorem dX9_stepOpening_1 : decode cX9_stepOpening 1 = .ok (.iload_n 1, 1) := by decide +kernel
theorem dX9_stepOpening_2 : decode cX9_stepOpening 2 = .ok (.iload_n 2, 1) := by decide +kernel
theorem dX9_stepOpening_3 : decode cX9_stepOpening 3 = .ok (.iconst 2, 1) := by decide +kernel
theorem dX9_stepOpening_4 : decode cX9_stepOpening 4 = .ok (.invokevirtual 172, 3) := by decide +kernel
theorem dX9_stepOpening_7 : decode cX9_stepOpening 7 = .ok (.ireturn, 1) := by decide +kernel
theorem dX9_figureLength_0 : decode cX9_figureLength 0 = .ok (.aload_n 0, 1) := by decide +kernel
theorem dX9_figureLength_1 : decode cX9_figureLength 1 = .ok (.aload_n 0, 1) := by decide +kernel
theorem dX9_figureLength_2 : decode cX9_figureLength 2 = .ok (.iload_n 1, 1) := by decide +kernel
theorem dX9_figureLength_3 : decode cX9_figureLength 3 = .ok (.invokevirtual 101, 3) := by decide +kernel
theorem dX9_figureLength_6 : decode cX9_figureLength 6 = .ok (.ifCond .eq 7, 3) := by decide +kernel
theorem dX9_figureLength_9 : decode cX9_figureLength 9 = .ok (.iconst 0, 1) := by decide +kernel
theorem dX9_figureLength_10 : decode cX9_figureLength 10 = .ok (.goto 4, 3) := by decide +kernel
theorem dX9_figureLength_13 : decode cX9_figureLength 13 = .ok (.iconst 1, 1) := by decide +kernel
theorem dX9_figureLength_14 : decode cX9_figureLength 14 = .ok (.putfield 41, 3) := by decide +kernel
theorem dX9_figureLength_17 : decode cX9_figureLength 17 = .ok (.aload_n 0, 1) := by decide +kernel
theorem dX9_figureLength_18 : decode cX9_figureLength 18 = .ok (.getfield 41, 3) := by decide +kernel
theorem dX9_figureLength_21 : decode cX9_figureLength 21 = .ok (.ifCond .le 7, 3) := by decide +kernel
theorem dX9_figureLength_24 : decode cX9_figureLength 24 = .ok (.iconst 0, 1) := by decide +kernel
theorem dX9_figureLength_25 : decode cX9_figureLength 25 = .ok (.goto 8, 3) := by decide +kernel
theorem dX9_figureLength_28 : decode cX9_figureLength 28 = .ok (.aload_n 0, 1) := by decide +kernel
theorem dX9_figureLength_29 : decode cX9_figureLength 29 = .ok (.iload_n 1, 1) := by decide +kernel
theorem dX9_figureLength_30 : decode cX9_figureLength 30 = .ok (.invokevirtual 84, 3) := by decide +kernel
theorem dX9_figureLength_33 : decode cX9_figureLength 33 = .ok (.ireturn, 1) := by decide +kernel
theorem dX9_uses_0 : decode cX9_uses 0 = .ok (.iconst 0, 1) := by decide +kernel
theorem dX9_uses_1 : decode cX9_uses 1 = .ok (.istore_n 3, 1) := by decide +kernel
theorem dX9_uses_2 : decode cX9_uses 2 = .ok (.iload_n 3, 1) := by decide +kernel
theorem dX9_uses_3 : decode cX9_uses 3 = .ok (.aload_n 0, 1) := by decide +kernel
theorem dX9_uses_4 : decode cX9_uses 4 = .ok (.iload_n 1, 1) := by decide +kernel
theorem dX9_uses_5 : decode cX9_uses 5 = .ok (.invokevirtual 77, 3) := by decide +kernel
theorem dX9_uses_8 : decode cX9_uses 8 = .ok (.if_icmp .ge 22, 3) := by decide +kernel
theorem dX9_uses_11 : decode cX9_uses 11 = .ok (.aload_n 0, 1) := by decide +kernel
theorem dX9_uses_12 : decode cX9_uses 12 = .ok (.iload_n 1, 1) := by decide +kernel
theorem dX9_uses_13 : decode cX9_uses 13 = .ok (.iload_n 3, 1) := by decide +kernel
theorem dX9_uses_14 : decode cX9_uses 14 = .ok (.iconst 1, 1) := by decide +kernel
theorem dX9_uses_15 : decode cX9_uses 15 = .ok (.invokevirtual 80, 3) := by decide +kernel
theorem dX9_uses_18 : decode cX9_uses 18 = .ok (.iload_n 2, 1) := by decide +kernel
theorem dX9_uses_19 : decode cX9_uses 19 = .ok (.if_icmp .ne 5, 3) := by decide +kernel
theorem dX9_uses_22 : decode cX9_uses 22 = .ok (.iconst 1, 1) := by decide +kernel
theorem dX9_uses_23 : decode cX9_uses 23 = .ok (.ireturn, 1) := by decide +kernel
theorem dX9_uses_24 : decode cX9_uses 24 = .ok (.iinc 3 1, 3) := by decide +kernel
theorem dX9_uses_27 : decode cX9_uses 27 = .ok (.goto (-25), 3) := by decide +kernel
theorem dX9_uses_30 : decode cX9_uses 30 = .ok (.iconst 0, 1) := by decide +kernel
theorem dX9_uses_31 : decode cX9_uses 31 = .ok (.ireturn, 1) := by decide +kernel
theorem dX9_figuresUsing_0 : decode cX9_figuresUsing 0 = .ok (.aload_n 0, 1) := by decide +kernel
theorem dX9_figuresUsing_1 : decode cX9_figuresUsing 1 = .ok (.iload_n 1, 1) := by decide +kernel
theorem dX9_figuresUsing_2 : decode cX9_figuresUsing 2 = .ok (.invokevirtual 140, 3) := by decide +kernel
theorem dX9_figuresUsing_5 : decode cX9_figuresUsing 5 = .ok (.ifCond .ne 5, 3) := by decide +kernel
theorem dX9_figuresUsing_8 : decode cX9_figuresUsing 8 = .ok (.iconst 0, 1) := by decide +kernel
theorem dX9_figuresUsing_9 : decode cX9_figuresUsing 9 = .ok (.ireturn, 1) := by decide +kernel
theorem dX9_figuresUsing_10 : decode cX9_figuresUsing 10 = .ok (.iconst 0, 1) := by decide +kernel
theorem dX9_figuresUsing_11 : decode cX9_figuresUsing 11 = .ok (.istore_n 2, 1) := by decide +kernel
theorem dX9_figuresUsing_12 : decode cX9_figuresUsing 12 = .ok (.iconst 0, 1) := by decide +kernel
theorem dX9_figuresUsing_13 : decode cX9_figuresUsing 13 = .ok (.istore_n 3, 1) := by decide +kernel
theorem dX9_figuresUsing_14 : decode cX9_figuresUsing 14 = .ok (.iload_n 3, 1) := by decide +kernel
theorem dX9_figuresUsing_15 : decode cX9_figuresUsing 15 = .ok (.aload_n 0, 1) := by decide +kernel
theorem dX9_figuresUsing_16 : decode cX9_figuresUsing 16 = .ok (.getfield 7, 3) := by decide +kernel
theorem dX9_figuresUsing_19 : decode cX9_figuresUsing 19 = .ok (.iconst 1, 1) := by decide +kernel
theorem dX9_figuresUsing_20 : decode cX9_figuresUsing 20 = .ok (.iaload, 1) := by decide +kernel
theorem dX9_figuresUsing_21 : decode cX9_figuresUsing 21 = .ok (.if_icmp .ge 26, 3) := by decide +kernel
theorem dX9_figuresUsing_24 : decode cX9_figuresUsing 24 = .ok (.iload_n 2, 1) := by decide +kernel
theorem dX9_figuresUsing_25 : decode cX9_figuresUsing 25 = .ok (.aload_n 0, 1) := by decide +kernel
theorem dX9_figuresUsing_26 : decode cX9_figuresUsing 26 = .ok (.iload_n 3, 1) := by decide +kernel
theorem dX9_figuresUsing_27 : decode cX9_figuresUsing 27 = .ok (.iload_n 1, 1) := by decide +kernel
theorem dX9_figuresUsing_28 : decode cX9_figuresUsing 28 = .ok (.invokevirtual 175, 3) := by decide +kernel
theorem dX9_figuresUsing_31 : decode cX9_figuresUsing 31 = .ok (.ifCond .eq 7, 3) := by decide +kernel
theorem dX9_figuresUsing_34 : decode cX9_figuresUsing 34 = .ok (.iconst 1, 1) := by decide +kernel
theorem dX9_figuresUsing_35 : decode cX9_figuresUsing 35 = .ok (.goto 4, 3) := by decide +kernel
theorem dX9_figuresUsing_38 : decode cX9_figuresUsing 38 = .ok (.iconst 0, 1) := by decide +kernel
theorem dX9_figuresUsing_39 : decode cX9_figuresUsing 39 = .ok (.iadd, 1) := by decide +kernel
theorem dX9_figuresUsing_40 : decode cX9_figuresUsing 40 = .ok (.istore_n 2, 1) := by decide +kernel
theorem dX9_figuresUsing_41 : decode cX9_figuresUsing 41 = .ok (.iinc 3 1, 3) := by decide +kernel
theorem dX9_figuresUsing_44 : decode cX9_figuresUsing 44 = .ok (.goto (-30), 3) := by decide +kernel
theorem dX9_figuresUsing_47 : decode cX9_figuresUsing 47 = .ok (.iload_n 2, 1) := by decide +kernel
theorem dX9_figuresUsing_48 : decode cX9_figuresUsing 48 = .ok (.ireturn, 1) := by decide +kernel
theorem dX9_play_0 : decode cX9_play 0 = .ok (.aload_n 0, 1) := by decide +kernel
theorem dX9_play_1 : decode cX9_play 1 = .ok (.invokevirtual 124, 3) := by decide +kernel
theorem dX9_play_4 : decode cX9_play 4 = .ok (.aload_n 0, 1) := by decide +kernel
theorem dX9_play_5 : decode cX9_play 5 = .ok (.aload_n 0, 1) := by decide +kernel
theorem dX9_play_6 : decode cX9_play 6 = .ok (.iload_n 1, 1) := by decide +kernel
theorem dX9_play_7 : decode cX9_play 7 = .ok (.iload_n 2, 1) := by decide +kernel
theorem dX9_play_8 : decode cX9_play 8 = .ok (.invokevirtual 178, 3) := by decide +kernel
theorem dX9_play_11 : decode cX9_play 11 = .ok (.invokevirtual 130, 3) := by decide +kernel
theorem dX9_play_14 : decode cX9_play 14 = .ok (.ireturn, 1) := by decide +kernel
theorem dX9_cancel_0 : decode cX9_cancel 0 = .ok (.aload_n 0, 1) := by decide +kernel
theorem dX9_cancel_1 : decode cX9_cancel 1 = .ok (.invokevirtual 124, 3) := by decide +kernel
theorem dX9_cancel_4 : decode cX9_cancel 4 = .ok (.aload_n 0, 1) := by decide +kernel
theorem dX9_cancel_5 : decode cX9_cancel 5 = .ok (.aload_n 0, 1) := by decide +kernel
theorem dX9_cancel_6 : decode cX9_cancel 6 = .ok (.iload_n 1, 1) := by decide +kernel
theorem dX9_cancel_7 : decode cX9_cancel 7 = .ok (.invokevirtual 181, 3) := by decide +kernel
theorem dX9_cancel_10 : decode cX9_cancel 10 = .ok (.invokevirtual 130, 3) := by decide +kernel
theorem dX9_cancel_13 : decode cX9_cancel 13 = .ok (.ireturn, 1) := by decide +kernel
theorem dX9_pass_0 : decode cX9_pass 0 = .ok (.aload_n 0, 1) := by decide +kernel
theorem dX9_pass_1 : decode cX9_pass 1 = .ok (.invokevirtual 124, 3) := by decide +kernel
theorem dX9_pass_4 : decode cX9_pass 4 = .ok (.aload_n 0, 1) := by decide +kernel
theorem dX9_pass_5 : decode cX9_pass 5 = .ok (.aload_n 0, 1) := by decide +kernel
theorem dX9_pass_6 : decode cX9_pass 6 = .ok (.iload_n 1, 1) := by decide +kernel
theorem dX9_pass_7 : decode cX9_pass 7 = .ok (.invokevirtual 184, 3) := by decide +kernel
theorem dX9_pass_10 : decode cX9_pass 10 = .ok (.invokevirtual 130, 3) := by decide +kernel
theorem dX9_pass_13 : decode cX9_pass 13 = .ok (.ireturn, 1) := by decide +kernel
theorem dX9_beat_0 : decode cX9_beat 0 = .ok (.aload_n 0, 1) := by decide +kernel
theorem dX9_beat_1 : decode cX9_beat 1 = .ok (.iconst 0, 1) := by decide +kernel
theorem dX9_beat_2 : decode cX9_beat 2 = .ok (.putfield 41, 3) := by decide +kernel
theorem dX9_beat_5 : decode cX9_beat 5 = .ok (.aload_n 0, 1) := by decide +kernel
theorem dX9_beat_6 : decode cX9_beat 6 = .ok (.getfield 7, 3) := by decide +kernel
theorem dX9_beat_9 : decode cX9_beat 9 = .ok (.iconst 5, 1) := by decide +kernel
theorem dX9_beat_10 : decode cX9_beat 10 = .ok (.iaload, 1) := by decide +kernel
theorem dX9_beat_11 : decode cX9_beat 11 = .ok (.ireturn, 1) := by decide +kernel
theorem dX9_queueLength_0 : decode cX9_queueLength 0 = .ok (.aload_n 0, 1) := by decide +kernel
theorem dX9_queueLength_1 : decode cX9_queueLength 1 = .ok (.iconst 0, 1) := by decide +kernel
theorem dX9_queueLength_2 : decode cX9_queueLength 2 = .ok (.putfield 41, 3) := by decide +kernel
theorem dX9_queueLength_5 : decode cX9_queueLength 5 = .ok (.aload_n 0, 1) := by decide +kernel
theorem dX9_queueLength_6 : decode cX9_queueLength 6 = .ok (.getfield 7, 3) := by decide +kernel
theorem dX9_queueLength_9 : decode cX9_queueLength 9 = .ok (.iconst 2, 1) := by decide +kernel
theorem dX9_queueLength_10 : decode cX9_queueLength 10 = .ok (.iaload, 1) := by decide +kernel
theorem dX9_queueLength_11 : decode cX9_queueLength 11 = .ok (.ireturn, 1) := by decide +kernel
theorem dX9_askedEntry_0 : decode cX9_askedEntry 0 = .ok (.aload_n 0, 1) := by decide +kernel
theorem dX9_askedEntry_1 : decode cX9_askedEntry 1 = .ok (.aload_n 0, 1) := by decide +kernel
theorem dX9_askedEntry_2 : decode cX9_askedEntry 2 = .ok (.iload_n 1, 1) := by decide +kernel
theorem dX9_askedEntry_3 : decode cX9_askedEntry 3 = .ok (.invokevirtual 108, 3) := by decide +kernel
theorem dX9_askedEntry_6 : decode cX9_askedEntry 6 = .ok (.ifCond .eq 7, 3) := by decide +kernel
theorem dX9_askedEntry_9 : decode cX9_askedEntry 9 = .ok (.iconst 0, 1) := by decide +kernel
theorem dX9_askedEntry_10 : decode cX9_askedEntry 10 = .ok (.goto 4, 3) := by decide +kernel
theorem dX9_askedEntry_13 : decode cX9_askedEntry 13 = .ok (.iconst 1, 1) := by decide +kernel
theorem dX9_askedEntry_14 : decode cX9_askedEntry 14 = .ok (.putfield 41, 3) := by decide +kernel
theorem dX9_askedEntry_17 : decode cX9_askedEntry 17 = .ok (.aload_n 0, 1) := by decide +kernel
theorem dX9_askedEntry_18 : decode cX9_askedEntry 18 = .ok (.getfield 41, 3) := by decide +kernel
theorem dX9_askedEntry_21 : decode cX9_askedEntry 21 = .ok (.ifCond .le 7, 3) := by decide +kernel
theorem dX9_askedEntry_24 : decode cX9_askedEntry 24 = .ok (.iconst 0, 1) := by decide +kernel
theorem dX9_askedEntry_25 : decode cX9_askedEntry 25 = .ok (.goto 17, 3) := by decide +kernel
theorem dX9_askedEntry_28 : decode cX9_askedEntry 28 = .ok (.aload_n 0, 1) := by decide +kernel
theorem dX9_askedEntry_29 : decode cX9_askedEntry 29 = .ok (.getfield 7, 3) := by decide +kernel
theorem dX9_askedEntry_32 : decode cX9_askedEntry 32 = .ok (.sipush 153, 3) := by decide +kernel
theorem dX9_askedEntry_35 : decode cX9_askedEntry 35 = .ok (.iconst 2, 1) := by decide +kernel
theorem dX9_askedEntry_36 : decode cX9_askedEntry 36 = .ok (.iload_n 1, 1) := by decide +kernel
theorem dX9_askedEntry_37 : decode cX9_askedEntry 37 = .ok (.imul, 1) := by decide +kernel
theorem dX9_askedEntry_38 : decode cX9_askedEntry 38 = .ok (.iadd, 1) := by decide +kernel
theorem dX9_askedEntry_39 : decode cX9_askedEntry 39 = .ok (.iload_n 2, 1) := by decide +kernel
theorem dX9_askedEntry_40 : decode cX9_askedEntry 40 = .ok (.iadd, 1) := by decide +kernel
theorem dX9_askedEntry_41 : decode cX9_askedEntry 41 = .ok (.iaload, 1) := by decide +kernel
theorem dX9_askedEntry_42 : decode cX9_askedEntry 42 = .ok (.ireturn, 1) := by decide +kernel
theorem dX9_entryFigure_0 : decode cX9_entryFigure 0 = .ok (.aload_n 0, 1) := by decide +kernel
theorem dX9_entryFigure_1 : decode cX9_entryFigure 1 = .ok (.iload_n 1, 1) := by decide +kernel
theorem dX9_entryFigure_2 : decode cX9_entryFigure 2 = .ok (.iconst 0, 1) := by decide +kernel
theorem dX9_entryFigure_3 : decode cX9_entryFigure 3 = .ok (.invokevirtual 187, 3) := by decide +kernel
theorem dX9_entryFigure_6 : decode cX9_entryFigure 6 = .ok (.ireturn, 1) := by decide +kernel
theorem dX9_entryStart_0 : decode cX9_entryStart 0 = .ok (.aload_n 0, 1) := by decide +kernel
theorem dX9_entryStart_1 : decode cX9_entryStart 1 = .ok (.iload_n 1, 1) := by decide +kernel
theorem dX9_entryStart_2 : decode cX9_entryStart 2 = .ok (.iconst 1, 1) := by decide +kernel
theorem dX9_entryStart_3 : decode cX9_entryStart 3 = .ok (.invokevirtual 187, 3) := by decide +kernel
theorem dX9_entryStart_6 : decode cX9_entryStart 6 = .ok (.ireturn, 1) := by decide +kernel
theorem dX9_beatsUntilEmpty_0 : decode cX9_beatsUntilEmpty 0 = .ok (.aload_n 0, 1) := by decide +kernel
theorem dX9_beatsUntilEmpty_1 : decode cX9_beatsUntilEmpty 1 = .ok (.iconst 0, 1) := by decide +kernel
theorem dX9_beatsUntilEmpty_2 : decode cX9_beatsUntilEmpty 2 = .ok (.putfield 41, 3) := by decide +kernel
theorem dX9_beatsUntilEmpty_5 : decode cX9_beatsUntilEmpty 5 = .ok (.aload_n 0, 1) := by decide +kernel
theorem dX9_beatsUntilEmpty_6 : decode cX9_beatsUntilEmpty 6 = .ok (.getfield 7, 3) := by decide +kernel
