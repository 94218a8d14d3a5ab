theorem dX9_beatsUntilEmpty_9 : decode cX9_beatsUntilEmpty 9 = .ok (.iconst 2, 1) := by decide +kernel
theorem dX9_beatsUntilEmpty_10 : decode cX9_beatsUntilEmpty 10 = .ok (.iaload, 1) := by decide +kernel
theorem dX9_beatsUntilEmpty_11 : decode cX9_beatsUntilEmpty 11 = .ok (.ifCond .le 7, 3) := by decide +kernel
theorem dX9_beatsUntilEmpty_14 : decode cX9_beatsUntilEmpty 14 = .ok (.iconst 1, 1) := by decide +kernel
theorem dX9_beatsUntilEmpty_15 : decode cX9_beatsUntilEmpty 15 = .ok (.goto 4, 3) := by decide +kernel
theorem dX9_beatsUntilEmpty_18 : decode cX9_beatsUntilEmpty 18 = .ok (.iconst 0, 1) := by decide +kernel
theorem dX9_beatsUntilEmpty_19 : decode cX9_beatsUntilEmpty 19 = .ok (.istore_n 1, 1) := by decide +kernel
theorem dX9_beatsUntilEmpty_20 : decode cX9_beatsUntilEmpty 20 = .ok (.iconst 0, 1) := by decide +kernel
theorem dX9_beatsUntilEmpty_21 : decode cX9_beatsUntilEmpty 21 = .ok (.istore_n 2, 1) := by decide +kernel
theorem dX9_beatsUntilEmpty_22 : decode cX9_beatsUntilEmpty 22 = .ok (.iload_n 2, 1) := by decide +kernel
theorem dX9_beatsUntilEmpty_23 : decode cX9_beatsUntilEmpty 23 = .ok (.aload_n 0, 1) := by decide +kernel
theorem dX9_beatsUntilEmpty_24 : decode cX9_beatsUntilEmpty 24 = .ok (.getfield 7, 3) := by decide +kernel
theorem dX9_beatsUntilEmpty_27 : decode cX9_beatsUntilEmpty 27 = .ok (.iconst 2, 1) := by decide +kernel
theorem dX9_beatsUntilEmpty_28 : decode cX9_beatsUntilEmpty 28 = .ok (.iaload, 1) := by decide +kernel
theorem dX9_beatsUntilEmpty_29 : decode cX9_beatsUntilEmpty 29 = .ok (.if_icmp .ge 42, 3) := by decide +kernel
theorem dX9_beatsUntilEmpty_32 : decode cX9_beatsUntilEmpty 32 = .ok (.aload_n 0, 1) := by decide +kernel
theorem dX9_beatsUntilEmpty_33 : decode cX9_beatsUntilEmpty 33 = .ok (.iload_n 2, 1) := by decide +kernel
theorem dX9_beatsUntilEmpty_34 : decode cX9_beatsUntilEmpty 34 = .ok (.invokevirtual 115, 3) := by decide +kernel
theorem dX9_beatsUntilEmpty_37 : decode cX9_beatsUntilEmpty 37 = .ok (.aload_n 0, 1) := by decide +kernel
theorem dX9_beatsUntilEmpty_38 : decode cX9_beatsUntilEmpty 38 = .ok (.getfield 7, 3) := by decide +kernel
theorem dX9_beatsUntilEmpty_41 : decode cX9_beatsUntilEmpty 41 = .ok (.iconst 5, 1) := by decide +kernel
theorem dX9_beatsUntilEmpty_42 : decode cX9_beatsUntilEmpty 42 = .ok (.iaload, 1) := by decide +kernel
theorem dX9_beatsUntilEmpty_43 : decode cX9_beatsUntilEmpty 43 = .ok (.isub, 1) := by decide +kernel
theorem dX9_beatsUntilEmpty_44 : decode cX9_beatsUntilEmpty 44 = .ok (.iload_n 1, 1) := by decide +kernel
theorem dX9_beatsUntilEmpty_45 : decode cX9_beatsUntilEmpty 45 = .ok (.if_icmp .le 18, 3) := by decide +kernel
theorem dX9_beatsUntilEmpty_48 : decode cX9_beatsUntilEmpty 48 = .ok (.aload_n 0, 1) := by decide +kernel
theorem dX9_beatsUntilEmpty_49 : decode cX9_beatsUntilEmpty 49 = .ok (.iload_n 2, 1) := by decide +kernel
theorem dX9_beatsUntilEmpty_50 : decode cX9_beatsUntilEmpty 50 = .ok (.invokevirtual 115, 3) := by decide +kernel
theorem dX9_beatsUntilEmpty_53 : decode cX9_beatsUntilEmpty 53 = .ok (.aload_n 0, 1) := by decide +kernel
theorem dX9_beatsUntilEmpty_54 : decode cX9_beatsUntilEmpty 54 = .ok (.getfield 7, 3) := by decide +kernel
theorem dX9_beatsUntilEmpty_57 : decode cX9_beatsUntilEmpty 57 = .ok (.iconst 5, 1) := by decide +kernel
theorem dX9_beatsUntilEmpty_58 : decode cX9_beatsUntilEmpty 58 = .ok (.iaload, 1) := by decide +kernel
theorem dX9_beatsUntilEmpty_59 : decode cX9_beatsUntilEmpty 59 = .ok (.isub, 1) := by decide +kernel
theorem dX9_beatsUntilEmpty_60 : decode cX9_beatsUntilEmpty 60 = .ok (.goto 4, 3) := by decide +kernel
theorem dX9_beatsUntilEmpty_63 : decode cX9_beatsUntilEmpty 63 = .ok (.iload_n 1, 1) := by decide +kernel
theorem dX9_beatsUntilEmpty_64 : decode cX9_beatsUntilEmpty 64 = .ok (.istore_n 1, 1) := by decide +kernel
theorem dX9_beatsUntilEmpty_65 : decode cX9_beatsUntilEmpty 65 = .ok (.iinc 2 1, 3) := by decide +kernel
theorem dX9_beatsUntilEmpty_68 : decode cX9_beatsUntilEmpty 68 = .ok (.goto (-46), 3) := by decide +kernel
theorem dX9_beatsUntilEmpty_71 : decode cX9_beatsUntilEmpty 71 = .ok (.iload_n 1, 1) := by decide +kernel
theorem dX9_beatsUntilEmpty_72 : decode cX9_beatsUntilEmpty 72 = .ok (.ireturn, 1) := by decide +kernel
theorem dX9_thinks_0 : decode cX9_thinks 0 = .ok (.iconst 0, 1) := by decide +kernel
theorem dX9_thinks_1 : decode cX9_thinks 1 = .ok (.istore_n 1, 1) := by decide +kernel
theorem dX9_thinks_2 : decode cX9_thinks 2 = .ok (.iload_n 1, 1) := by decide +kernel
theorem dX9_thinks_3 : decode cX9_thinks 3 = .ok (.sipush 165, 3) := by decide +kernel
theorem dX9_thinks_6 : decode cX9_thinks 6 = .ok (.if_icmp .ge 21, 3) := by decide +kernel
theorem dX9_thinks_9 : decode cX9_thinks 9 = .ok (.aload_n 0, 1) := by decide +kernel
theorem dX9_thinks_10 : decode cX9_thinks 10 = .ok (.getfield 22, 3) := by decide +kernel
theorem dX9_thinks_13 : decode cX9_thinks 13 = .ok (.iload_n 1, 1) := by decide +kernel
theorem dX9_thinks_14 : decode cX9_thinks 14 = .ok (.aload_n 0, 1) := by decide +kernel
theorem dX9_thinks_15 : decode cX9_thinks 15 = .ok (.getfield 7, 3) := by decide +kernel
theorem dX9_thinks_18 : decode cX9_thinks 18 = .ok (.iload_n 1, 1) := by decide +kernel
theorem dX9_thinks_19 : decode cX9_thinks 19 = .ok (.iaload, 1) := by decide +kernel
theorem dX9_thinks_20 : decode cX9_thinks 20 = .ok (.iastore, 1) := by decide +kernel
theorem dX9_thinks_21 : decode cX9_thinks 21 = .ok (.iinc 1 1, 3) := by decide +kernel
theorem dX9_thinks_24 : decode cX9_thinks 24 = .ok (.goto (-22), 3) := by decide +kernel
theorem dX9_thinks_27 : decode cX9_thinks 27 = .ok (.return_, 1) := by decide +kernel
theorem dX9_forgets_0 : decode cX9_forgets 0 = .ok (.iconst 0, 1) := by decide +kernel
theorem dX9_forgets_1 : decode cX9_forgets 1 = .ok (.istore_n 1, 1) := by decide +kernel
theorem dX9_forgets_2 : decode cX9_forgets 2 = .ok (.iload_n 1, 1) := by decide +kernel
theorem dX9_forgets_3 : decode cX9_forgets 3 = .ok (.sipush 165, 3) := by decide +kernel
theorem dX9_forgets_6 : decode cX9_forgets 6 = .ok (.if_icmp .ge 21, 3) := by decide +kernel
theorem dX9_forgets_9 : decode cX9_forgets 9 = .ok (.aload_n 0, 1) := by decide +kernel
theorem dX9_forgets_10 : decode cX9_forgets 10 = .ok (.getfield 7, 3) := by decide +kernel
theorem dX9_forgets_13 : decode cX9_forgets 13 = .ok (.iload_n 1, 1) := by decide +kernel
theorem dX9_forgets_14 : decode cX9_forgets 14 = .ok (.aload_n 0, 1) := by decide +kernel
theorem dX9_forgets_15 : decode cX9_forgets 15 = .ok (.getfield 22, 3) := by decide +kernel
theorem dX9_forgets_18 : decode cX9_forgets 18 = .ok (.iload_n 1, 1) := by decide +kernel
theorem dX9_forgets_19 : decode cX9_forgets 19 = .ok (.iaload, 1) := by decide +kernel
theorem dX9_forgets_20 : decode cX9_forgets 20 = .ok (.iastore, 1) := by decide +kernel
theorem dX9_forgets_21 : decode cX9_forgets 21 = .ok (.iinc 1 1, 3) := by decide +kernel
theorem dX9_forgets_24 : decode cX9_forgets 24 = .ok (.goto (-22), 3) := by decide +kernel
theorem dX9_forgets_27 : decode cX9_forgets 27 = .ok (.return_, 1) := by decide +kernel
theorem dX9_demandAfter_0 : decode cX9_demandAfter 0 = .ok (.aload_n 0, 1) := by decide +kernel
theorem dX9_demandAfter_1 : decode cX9_demandAfter 1 = .ok (.iload_n 1, 1) := by decide +kernel
theorem dX9_demandAfter_2 : decode cX9_demandAfter 2 = .ok (.iconst 0, 1) := by decide +kernel
theorem dX9_demandAfter_3 : decode cX9_demandAfter 3 = .ok (.bipush 40, 2) := by decide +kernel
theorem dX9_demandAfter_5 : decode cX9_demandAfter 5 = .ok (.invokestatic 57, 3) := by decide +kernel
theorem dX9_demandAfter_8 : decode cX9_demandAfter 8 = .ok (.ifCond .eq 7, 3) := by decide +kernel
theorem dX9_demandAfter_11 : decode cX9_demandAfter 11 = .ok (.iconst 0, 1) := by decide +kernel
theorem dX9_demandAfter_12 : decode cX9_demandAfter 12 = .ok (.goto 4, 3) := by decide +kernel
theorem dX9_demandAfter_15 : decode cX9_demandAfter 15 = .ok (.iconst 1, 1) := by decide +kernel
theorem dX9_demandAfter_16 : decode cX9_demandAfter 16 = .ok (.putfield 41, 3) := by decide +kernel
theorem dX9_demandAfter_19 : decode cX9_demandAfter 19 = .ok (.aload_n 0, 1) := by decide +kernel
theorem dX9_demandAfter_20 : decode cX9_demandAfter 20 = .ok (.getfield 41, 3) := by decide +kernel
theorem dX9_demandAfter_23 : decode cX9_demandAfter 23 = .ok (.ifCond .le 5, 3) := by decide +kernel
theorem dX9_demandAfter_26 : decode cX9_demandAfter 26 = .ok (.iconst 0, 1) := by decide +kernel
theorem dX9_demandAfter_27 : decode cX9_demandAfter 27 = .ok (.ireturn, 1) := by decide +kernel
theorem dX9_demandAfter_28 : decode cX9_demandAfter 28 = .ok (.aload_n 0, 1) := by decide +kernel
theorem dX9_demandAfter_29 : decode cX9_demandAfter 29 = .ok (.invokevirtual 190, 3) := by decide +kernel
theorem dX9_demandAfter_32 : decode cX9_demandAfter 32 = .ok (.iconst 0, 1) := by decide +kernel
theorem dX9_demandAfter_33 : decode cX9_demandAfter 33 = .ok (.istore_n 2, 1) := by decide +kernel
theorem dX9_demandAfter_34 : decode cX9_demandAfter 34 = .ok (.iconst 0, 1) := by decide +kernel
theorem dX9_demandAfter_35 : decode cX9_demandAfter 35 = .ok (.istore_n 3, 1) := by decide +kernel
theorem dX9_demandAfter_36 : decode cX9_demandAfter 36 = .ok (.iload_n 3, 1) := by decide +kernel
theorem dX9_demandAfter_37 : decode cX9_demandAfter 37 = .ok (.iload_n 1, 1) := by decide +kernel
theorem dX9_demandAfter_38 : decode cX9_demandAfter 38 = .ok (.if_icmp .ge 16, 3) := by decide +kernel
theorem dX9_demandAfter_41 : decode cX9_demandAfter 41 = .ok (.iload_n 2, 1) := by decide +kernel
theorem dX9_demandAfter_42 : decode cX9_demandAfter 42 = .ok (.aload_n 0, 1) := by decide +kernel
theorem dX9_demandAfter_43 : decode cX9_demandAfter 43 = .ok (.invokevirtual 121, 3) := by decide +kernel
theorem dX9_demandAfter_46 : decode cX9_demandAfter 46 = .ok (.iadd, 1) := by decide +kernel
theorem dX9_demandAfter_47 : decode cX9_demandAfter 47 = .ok (.istore_n 2, 1) := by decide +kernel
theorem dX9_demandAfter_48 : decode cX9_demandAfter 48 = .ok (.iinc 3 1, 3) := by decide +kernel
theorem dX9_demandAfter_51 : decode cX9_demandAfter 51 = .ok (.goto (-15), 3) := by decide +kernel
theorem dX9_demandAfter_54 : decode cX9_demandAfter 54 = .ok (.aload_n 0, 1) := by decide +kernel
theorem dX9_demandAfter_55 : decode cX9_demandAfter 55 = .ok (.invokevirtual 64, 3) := by decide +kernel
theorem dX9_demandAfter_58 : decode cX9_demandAfter 58 = .ok (.istore_n 3, 1) := by decide +kernel
theorem dX9_demandAfter_59 : decode cX9_demandAfter 59 = .ok (.aload_n 0, 1) := by decide +kernel
theorem dX9_demandAfter_60 : decode cX9_demandAfter 60 = .ok (.invokevirtual 193, 3) := by decide +kernel
theorem dX9_demandAfter_63 : decode cX9_demandAfter 63 = .ok (.iload_n 3, 1) := by decide +kernel
theorem dX9_demandAfter_64 : decode cX9_demandAfter 64 = .ok (.ireturn, 1) := by decide +kernel
theorem dX9_demandAfterBySteps_0 : decode cX9_demandAfterBySteps 0 = .ok (.aload_n 0, 1) := by decide +kernel
theorem dX9_demandAfterBySteps_1 : decode cX9_demandAfterBySteps 1 = .ok (.iload_n 1, 1) := by decide +kernel
theorem dX9_demandAfterBySteps_2 : decode cX9_demandAfterBySteps 2 = .ok (.invokevirtual 196, 3) := by decide +kernel
theorem dX9_demandAfterBySteps_5 : decode cX9_demandAfterBySteps 5 = .ok (.ireturn, 1) := by decide +kernel
theorem dX9_firstOverload_0 : decode cX9_firstOverload 0 = .ok (.aload_n 0, 1) := by decide +kernel
theorem dX9_firstOverload_1 : decode cX9_firstOverload 1 = .ok (.iload_n 1, 1) := by decide +kernel
theorem dX9_firstOverload_2 : decode cX9_firstOverload 2 = .ok (.iconst 0, 1) := by decide +kernel
theorem dX9_firstOverload_3 : decode cX9_firstOverload 3 = .ok (.bipush 40, 2) := by decide +kernel
theorem dX9_firstOverload_5 : decode cX9_firstOverload 5 = .ok (.invokestatic 57, 3) := by decide +kernel
theorem dX9_firstOverload_8 : decode cX9_firstOverload 8 = .ok (.ifCond .eq 7, 3) := by decide +kernel
theorem dX9_firstOverload_11 : decode cX9_firstOverload 11 = .ok (.iconst 0, 1) := by decide +kernel
theorem dX9_firstOverload_12 : decode cX9_firstOverload 12 = .ok (.goto 4, 3) := by decide +kernel
theorem dX9_firstOverload_15 : decode cX9_firstOverload 15 = .ok (.iconst 1, 1) := by decide +kernel
theorem dX9_firstOverload_16 : decode cX9_firstOverload 16 = .ok (.putfield 41, 3) := by decide +kernel
theorem dX9_firstOverload_19 : decode cX9_firstOverload 19 = .ok (.aload_n 0, 1) := by decide +kernel
theorem dX9_firstOverload_20 : decode cX9_firstOverload 20 = .ok (.getfield 41, 3) := by decide +kernel
theorem dX9_firstOverload_23 : decode cX9_firstOverload 23 = .ok (.ifCond .le 5, 3) := by decide +kernel
theorem dX9_firstOverload_26 : decode cX9_firstOverload 26 = .ok (.iconst 0, 1) := by decide +kernel
theorem dX9_firstOverload_27 : decode cX9_firstOverload 27 = .ok (.ireturn, 1) := by decide +kernel
theorem dX9_firstOverload_28 : decode cX9_firstOverload 28 = .ok (.aload_n 0, 1) := by decide +kernel
theorem dX9_firstOverload_29 : decode cX9_firstOverload 29 = .ok (.invokevirtual 190, 3) := by decide +kernel
theorem dX9_firstOverload_32 : decode cX9_firstOverload 32 = .ok (.iconst 0, 1) := by decide +kernel
theorem dX9_firstOverload_33 : decode cX9_firstOverload 33 = .ok (.istore_n 2, 1) := by decide +kernel
theorem dX9_firstOverload_34 : decode cX9_firstOverload 34 = .ok (.iconst 0, 1) := by decide +kernel
theorem dX9_firstOverload_35 : decode cX9_firstOverload 35 = .ok (.istore_n 3, 1) := by decide +kernel
theorem dX9_firstOverload_36 : decode cX9_firstOverload 36 = .ok (.iconst 1, 1) := by decide +kernel
theorem dX9_firstOverload_37 : decode cX9_firstOverload 37 = .ok (.istore 4, 2) := by decide +kernel
theorem dX9_firstOverload_39 : decode cX9_firstOverload 39 = .ok (.iload 4, 2) := by decide +kernel
theorem dX9_firstOverload_41 : decode cX9_firstOverload 41 = .ok (.iload_n 1, 1) := by decide +kernel
theorem dX9_firstOverload_42 : decode cX9_firstOverload 42 = .ok (.if_icmp .gt 40, 3) := by decide +kernel
theorem dX9_firstOverload_45 : decode cX9_firstOverload 45 = .ok (.iload_n 2, 1) := by decide +kernel
theorem dX9_firstOverload_46 : decode cX9_firstOverload 46 = .ok (.ifCond .ne 36, 3) := by decide +kernel
theorem dX9_firstOverload_49 : decode cX9_firstOverload 49 = .ok (.iload_n 3, 1) := by decide +kernel
theorem dX9_firstOverload_50 : decode cX9_firstOverload 50 = .ok (.aload_n 0, 1) := by decide +kernel
theorem dX9_firstOverload_51 : decode cX9_firstOverload 51 = .ok (.invokevirtual 121, 3) := by decide +kernel
theorem dX9_firstOverload_54 : decode cX9_firstOverload 54 = .ok (.iadd, 1) := by decide +kernel
theorem dX9_firstOverload_55 : decode cX9_firstOverload 55 = .ok (.istore_n 3, 1) := by decide +kernel
theorem dX9_firstOverload_56 : decode cX9_firstOverload 56 = .ok (.aload_n 0, 1) := by decide +kernel
theorem dX9_firstOverload_57 : decode cX9_firstOverload 57 = .ok (.invokevirtual 64, 3) := by decide +kernel
theorem dX9_firstOverload_60 : decode cX9_firstOverload 60 = .ok (.aload_n 0, 1) := by decide +kernel
theorem dX9_firstOverload_61 : decode cX9_firstOverload 61 = .ok (.getfield 7, 3) := by decide +kernel
theorem dX9_firstOverload_64 : decode cX9_firstOverload 64 = .ok (.iconst 3, 1) := by decide +kernel
theorem dX9_firstOverload_65 : decode cX9_firstOverload 65 = .ok (.iaload, 1) := by decide +kernel
theorem dX9_firstOverload_66 : decode cX9_firstOverload 66 = .ok (.if_icmp .le 8, 3) := by decide +kernel
theorem dX9_firstOverload_69 : decode cX9_firstOverload 69 = .ok (.iload 4, 2) := by decide +kernel
theorem dX9_firstOverload_71 : decode cX9_firstOverload 71 = .ok (.goto 4, 3) := by decide +kernel
theorem dX9_firstOverload_74 : decode cX9_firstOverload 74 = .ok (.iconst 0, 1) := by decide +kernel
theorem dX9_firstOverload_75 : decode cX9_firstOverload 75 = .ok (.istore_n 2, 1) := by decide +kernel
theorem dX9_firstOverload_76 : decode cX9_firstOverload 76 = .ok (.iinc 4 1, 3) := by decide +kernel
theorem dX9_firstOverload_79 : decode cX9_firstOverload 79 = .ok (.goto (-40), 3) := by decide +kernel
theorem dX9_firstOverload_82 : decode cX9_firstOverload 82 = .ok (.aload_n 0, 1) := by decide +kernel
theorem dX9_firstOverload_83 : decode cX9_firstOverload 83 = .ok (.invokevirtual 193, 3) := by decide +kernel
theorem dX9_firstOverload_86 : decode cX9_firstOverload 86 = .ok (.iload_n 2, 1) := by decide +kernel
theorem dX9_firstOverload_87 : decode cX9_firstOverload 87 = .ok (.ifCond .ne 11, 3) := by decide +kernel
theorem dX9_firstOverload_90 : decode cX9_firstOverload 90 = .ok (.aload_n 0, 1) := by decide +kernel
theorem dX9_firstOverload_91 : decode cX9_firstOverload 91 = .ok (.iconst 2, 1) := by decide +kernel
theorem dX9_firstOverload_92 : decode cX9_firstOverload 92 = .ok (.invokevirtual 54, 3) := by decide +kernel
theorem dX9_firstOverload_95 : decode cX9_firstOverload 95 = .ok (.goto 4, 3) := by decide +kernel
theorem dX9_firstOverload_98 : decode cX9_firstOverload 98 = .ok (.iload_n 2, 1) := by decide +kernel
theorem dX9_firstOverload_99 : decode cX9_firstOverload 99 = .ok (.ireturn, 1) := by decide +kernel
theorem dX9_meanOpening_0 : decode cX9_meanOpening 0 = .ok (.aload_n 0, 1) := by decide +kernel
theorem dX9_meanOpening_1 : decode cX9_meanOpening 1 = .ok (.aload_n 0, 1) := by decide +kernel
theorem dX9_meanOpening_2 : decode cX9_meanOpening 2 = .ok (.getfield 7, 3) := by decide +kernel
theorem dX9_meanOpening_5 : decode cX9_meanOpening 5 = .ok (.iconst 0, 1) := by decide +kernel
theorem dX9_meanOpening_6 : decode cX9_meanOpening 6 = .ok (.iaload, 1) := by decide +kernel
theorem dX9_meanOpening_7 : decode cX9_meanOpening 7 = .ok (.ifCond .ne 7, 3) := by decide +kernel
theorem dX9_meanOpening_10 : decode cX9_meanOpening 10 = .ok (.iconst 1, 1) := by decide +kernel
theorem dX9_meanOpening_11 : decode cX9_meanOpening 11 = .ok (.goto 4, 3) := by decide +kernel
theorem dX9_meanOpening_14 : decode cX9_meanOpening 14 = .ok (.iconst 0, 1) := by decide +kernel
theorem dX9_meanOpening_15 : decode cX9_meanOpening 15 = .ok (.putfield 41, 3) := by decide +kernel
theorem dX9_meanOpening_18 : decode cX9_meanOpening 18 = .ok (.aload_n 0, 1) := by decide +kernel
theorem dX9_meanOpening_19 : decode cX9_meanOpening 19 = .ok (.getfield 41, 3) := by decide +kernel
theorem dX9_meanOpening_22 : decode cX9_meanOpening 22 = .ok (.ifCond .le 7, 3) := by decide +kernel
theorem dX9_meanOpening_25 : decode cX9_meanOpening 25 = .ok (.dconst 0, 1) := by decide +kernel
theorem dX9_meanOpening_26 : decode cX9_meanOpening 26 = .ok (.goto 16, 3) := by decide +kernel
theorem dX9_meanOpening_29 : decode cX9_meanOpening 29 = .ok (.aload_n 0, 1) := by decide +kernel
theorem dX9_meanOpening_30 : decode cX9_meanOpening 30 = .ok (.invokevirtual 64, 3) := by decide +kernel
theorem dX9_meanOpening_33 : decode cX9_meanOpening 33 = .ok (.i2d, 1) := by decide +kernel
theorem dX9_meanOpening_34 : decode cX9_meanOpening 34 = .ok (.aload_n 0, 1) := by decide +kernel
theorem dX9_meanOpening_35 : decode cX9_meanOpening 35 = .ok (.getfield 7, 3) := by decide +kernel
theorem dX9_meanOpening_38 : decode cX9_meanOpening 38 = .ok (.iconst 0, 1) := by decide +kernel
theorem dX9_meanOpening_39 : decode cX9_meanOpening 39 = .ok (.iaload, 1) := by decide +kernel
theorem dX9_meanOpening_40 : decode cX9_meanOpening 40 = .ok (.i2d, 1) := by decide +kernel
theorem dX9_meanOpening_41 : decode cX9_meanOpening 41 = .ok (.ddiv, 1) := by decide +kernel
theorem dX9_meanOpening_42 : decode cX9_meanOpening 42 = .ok (.dreturn, 1) := by decide +kernel
theorem dX9_supplyFraction_0 : decode cX9_supplyFraction 0 = .ok (.aload_n 0, 1) := by decide +kernel
theorem dX9_supplyFraction_1 : decode cX9_supplyFraction 1 = .ok (.aload_n 0, 1) := by decide +kernel
theorem dX9_supplyFraction_2 : decode cX9_supplyFraction 2 = .ok (.invokevirtual 64, 3) := by decide +kernel
theorem dX9_supplyFraction_5 : decode cX9_supplyFraction 5 = .ok (.ifCond .ne 7, 3) := by decide +kernel
theorem dX9_supplyFraction_8 : decode cX9_supplyFraction 8 = .ok (.iconst 1, 1) := by decide +kernel
theorem dX9_supplyFraction_9 : decode cX9_supplyFraction 9 = .ok (.goto 4, 3) := by decide +kernel
theorem dX9_supplyFraction_12 : decode cX9_supplyFraction 12 = .ok (.iconst 0, 1) := by decide +kernel
theorem dX9_supplyFraction_13 : decode cX9_supplyFraction 13 = .ok (.putfield 41, 3) := by decide +kernel
theorem dX9_supplyFraction_16 : decode cX9_supplyFraction 16 = .ok (.aload_n 0, 1) := by decide +kernel
theorem dX9_supplyFraction_17 : decode cX9_supplyFraction 17 = .ok (.getfield 41, 3) := by decide +kernel
theorem dX9_supplyFraction_20 : decode cX9_supplyFraction 20 = .ok (.ifCond .le 7, 3) := by decide +kernel
theorem dX9_supplyFraction_23 : decode cX9_supplyFraction 23 = .ok (.fconst 0, 1) := by decide +kernel
theorem dX9_supplyFraction_24 : decode cX9_supplyFraction 24 = .ok (.goto 14, 3) := by decide +kernel
theorem dX9_supplyFraction_27 : decode cX9_supplyFraction 27 = .ok (.aload_n 0, 1) := by decide +kernel
theorem dX9_supplyFraction_28 : decode cX9_supplyFraction 28 = .ok (.invokevirtual 118, 3) := by decide +kernel
theorem dX9_supplyFraction_31 : decode cX9_supplyFraction 31 = .ok (.i2f, 1) := by decide +kernel
theorem dX9_supplyFraction_32 : decode cX9_supplyFraction 32 = .ok (.aload_n 0, 1) := by decide +kernel
theorem dX9_supplyFraction_33 : decode cX9_supplyFraction 33 = .ok (.invokevirtual 64, 3) := by decide +kernel
theorem dX9_supplyFraction_36 : decode cX9_supplyFraction 36 = .ok (.i2f, 1) := by decide +kernel
theorem dX9_supplyFraction_37 : decode cX9_supplyFraction 37 = .ok (.fdiv, 1) := by decide +kernel
theorem dX9_supplyFraction_38 : decode cX9_supplyFraction 38 = .ok (.freturn, 1) := by decide +kernel
theorem dX9_writes_0 : decode cX9_writes 0 = .ok (.aload_n 0, 1) := by decide +kernel
theorem dX9_writes_1 : decode cX9_writes 1 = .ok (.getfield 31, 3) := by decide +kernel
theorem dX9_writes_4 : decode cX9_writes 4 = .ok (.aload_n 0, 1) := by decide +kernel
theorem dX9_writes_5 : decode cX9_writes 5 = .ok (.getfield 199, 3) := by decide +kernel
theorem dX9_writes_8 : decode cX9_writes 8 = .ok (.iload_n 1, 1) := by decide +kernel
theorem dX9_writes_9 : decode cX9_writes 9 = .ok (.iastore, 1) := by decide +kernel
theorem dX9_writes_10 : decode cX9_writes 10 = .ok (.aload_n 0, 1) := by decide +kernel
theorem dX9_writes_11 : decode cX9_writes 11 = .ok (.dup, 1) := by decide +kernel
theorem dX9_writes_12 : decode cX9_writes 12 = .ok (.getfield 199, 3) := by decide +kernel
theorem dX9_writes_15 : decode cX9_writes 15 = .ok (.iconst 1, 1) := by decide +kernel
theorem dX9_writes_16 : decode cX9_writes 16 = .ok (.iadd, 1) := by decide +kernel
theorem dX9_writes_17 : decode cX9_writes 17 = .ok (.putfield 199, 3) := by decide +kernel
theorem dX9_writes_20 : decode cX9_writes 20 = .ok (.return_, 1) := by decide +kernel
theorem dX9_writesNumber_0 : decode cX9_writesNumber 0 = .ok (.iload_n 1, 1) := by decide +kernel
theorem dX9_writesNumber_1 : decode cX9_writesNumber 1 = .ok (.bipush 9, 2) := by decide +kernel
theorem dX9_writesNumber_3 : decode cX9_writesNumber 3 = .ok (.if_icmp .le 14, 3) := by decide +kernel
theorem dX9_writesNumber_6 : decode cX9_writesNumber 6 = .ok (.aload_n 0, 1) := by decide +kernel
theorem dX9_writesNumber_7 : decode cX9_writesNumber 7 = .ok (.bipush 48, 2) := by decide +kernel
theorem dX9_writesNumber_9 : decode cX9_writesNumber 9 = .ok (.iload_n 1, 1) := by decide +kernel
theorem dX9_writesNumber_10 : decode cX9_writesNumber 10 = .ok (.bipush 10, 2) := by decide +kernel
theorem dX9_writesNumber_12 : decode cX9_writesNumber 12 = .ok (.idiv, 1) := by decide +kernel
theorem dX9_writesNumber_13 : decode cX9_writesNumber 13 = .ok (.iadd, 1) := by decide +kernel
theorem dX9_writesNumber_14 : decode cX9_writesNumber 14 = .ok (.invokevirtual 202, 3) := by decide +kernel
theorem dX9_writesNumber_17 : decode cX9_writesNumber 17 = .ok (.aload_n 0, 1) := by decide +kernel
theorem dX9_writesNumber_18 : decode cX9_writesNumber 18 = .ok (.bipush 48, 2) := by decide +kernel
theorem dX9_writesNumber_20 : decode cX9_writesNumber 20 = .ok (.iload_n 1, 1) := by decide +kernel
theorem dX9_writesNumber_21 : decode cX9_writesNumber 21 = .ok (.bipush 10, 2) := by decide +kernel
theorem dX9_writesNumber_23 : decode cX9_writesNumber 23 = .ok (.irem, 1) := by decide +kernel
theorem dX9_writesNumber_24 : decode cX9_writesNumber 24 = .ok (.iadd, 1) := by decide +kernel
theorem dX9_writesNumber_25 : decode cX9_writesNumber 25 = .ok (.invokevirtual 202, 3) := by decide +kernel
theorem dX9_writesNumber_28 : decode cX9_writesNumber 28 = .ok (.return_, 1) := by decide +kernel
theorem dX9_writeFigure_0 : decode cX9_writeFigure 0 = .ok (.aload_n 0, 1) := by decide +kernel
theorem dX9_writeFigure_1 : decode cX9_writeFigure 1 = .ok (.aload_n 0, 1) := by decide +kernel
theorem dX9_writeFigure_2 : decode cX9_writeFigure 2 = .ok (.iload_n 1, 1) := by decide +kernel
theorem dX9_writeFigure_3 : decode cX9_writeFigure 3 = .ok (.invokevirtual 101, 3) := by decide +kernel
theorem dX9_writeFigure_6 : decode cX9_writeFigure 6 = .ok (.ifCond .eq 7, 3) := by decide +kernel
theorem dX9_writeFigure_9 : decode cX9_writeFigure 9 = .ok (.iconst 0, 1) := by decide +kernel
theorem dX9_writeFigure_10 : decode cX9_writeFigure 10 = .ok (.goto 4, 3) := by decide +kernel
theorem dX9_writeFigure_13 : decode cX9_writeFigure 13 = .ok (.iconst 1, 1) := by decide +kernel
theorem dX9_writeFigure_14 : decode cX9_writeFigure 14 = .ok (.putfield 41, 3) := by decide +kernel
theorem dX9_writeFigure_17 : decode cX9_writeFigure 17 = .ok (.aload_n 0, 1) := by decide +kernel
theorem dX9_writeFigure_18 : decode cX9_writeFigure 18 = .ok (.getfield 41, 3) := by decide +kernel
theorem dX9_writeFigure_21 : decode cX9_writeFigure 21 = .ok (.ifCond .le 5, 3) := by decide +kernel
theorem dX9_writeFigure_24 : decode cX9_writeFigure 24 = .ok (.iconst 0, 1) := by decide +kernel
theorem dX9_writeFigure_25 : decode cX9_writeFigure 25 = .ok (.ireturn, 1) := by decide +kernel
theorem dX9_writeFigure_26 : decode cX9_writeFigure 26 = .ok (.aload_n 0, 1) := by decide +kernel
theorem dX9_writeFigure_27 : decode cX9_writeFigure 27 = .ok (.iconst 0, 1) := by decide +kernel
theorem dX9_writeFigure_28 : decode cX9_writeFigure 28 = .ok (.putfield 199, 3) := by decide +kernel
theorem dX9_writeFigure_31 : decode cX9_writeFigure 31 = .ok (.iconst 0, 1) := by decide +kernel
theorem dX9_writeFigure_32 : decode cX9_writeFigure 32 = .ok (.istore_n 2, 1) := by decide +kernel
theorem dX9_writeFigure_33 : decode cX9_writeFigure 33 = .ok (.iload_n 2, 1) := by decide +kernel
theorem dX9_writeFigure_34 : decode cX9_writeFigure 34 = .ok (.aload_n 0, 1) := by decide +kernel
theorem dX9_writeFigure_35 : decode cX9_writeFigure 35 = .ok (.iload_n 1, 1) := by decide +kernel
theorem dX9_writeFigure_36 : decode cX9_writeFigure 36 = .ok (.invokevirtual 77, 3) := by decide +kernel
theorem dX9_writeFigure_39 : decode cX9_writeFigure 39 = .ok (.if_icmp .ge 64, 3) := by decide +kernel
theorem dX9_writeFigure_42 : decode cX9_writeFigure 42 = .ok (.iload_n 2, 1) := by decide +kernel
theorem dX9_writeFigure_43 : decode cX9_writeFigure 43 = .ok (.ifCond .le 9, 3) := by decide +kernel
theorem dX9_writeFigure_46 : decode cX9_writeFigure 46 = .ok (.aload_n 0, 1) := by decide +kernel
theorem dX9_writeFigure_47 : decode cX9_writeFigure 47 = .ok (.bipush 32, 2) := by decide +kernel
theorem dX9_writeFigure_49 : decode cX9_writeFigure 49 = .ok (.invokevirtual 202, 3) := by decide +kernel
theorem dX9_writeFigure_52 : decode cX9_writeFigure 52 = .ok (.aload_n 0, 1) := by decide +kernel
theorem dX9_writeFigure_53 : decode cX9_writeFigure 53 = .ok (.aload_n 0, 1) := by decide +kernel
theorem dX9_writeFigure_54 : decode cX9_writeFigure 54 = .ok (.iload_n 1, 1) := by decide +kernel
theorem dX9_writeFigure_55 : decode cX9_writeFigure 55 = .ok (.iload_n 2, 1) := by decide +kernel
theorem dX9_writeFigure_56 : decode cX9_writeFigure 56 = .ok (.iconst 0, 1) := by decide +kernel
theorem dX9_writeFigure_57 : decode cX9_writeFigure 57 = .ok (.invokevirtual 80, 3) := by decide +kernel
theorem dX9_writeFigure_60 : decode cX9_writeFigure 60 = .ok (.invokevirtual 205, 3) := by decide +kernel
theorem dX9_writeFigure_63 : decode cX9_writeFigure 63 = .ok (.aload_n 0, 1) := by decide +kernel
theorem dX9_writeFigure_64 : decode cX9_writeFigure 64 = .ok (.bipush 58, 2) := by decide +kernel
theorem dX9_writeFigure_66 : decode cX9_writeFigure 66 = .ok (.invokevirtual 202, 3) := by decide +kernel
theorem dX9_writeFigure_69 : decode cX9_writeFigure 69 = .ok (.aload_n 0, 1) := by decide +kernel
theorem dX9_writeFigure_70 : decode cX9_writeFigure 70 = .ok (.aload_n 0, 1) := by decide +kernel
theorem dX9_writeFigure_71 : decode cX9_writeFigure 71 = .ok (.iload_n 1, 1) := by decide +kernel
theorem dX9_writeFigure_72 : decode cX9_writeFigure 72 = .ok (.iload_n 2, 1) := by decide +kernel
theorem dX9_writeFigure_73 : decode cX9_writeFigure 73 = .ok (.iconst 1, 1) := by decide +kernel
theorem dX9_writeFigure_74 : decode cX9_writeFigure 74 = .ok (.invokevirtual 80, 3) := by decide +kernel
theorem dX9_writeFigure_77 : decode cX9_writeFigure 77 = .ok (.invokevirtual 205, 3) := by decide +kernel
theorem dX9_writeFigure_80 : decode cX9_writeFigure 80 = .ok (.aload_n 0, 1) := by decide +kernel
theorem dX9_writeFigure_81 : decode cX9_writeFigure 81 = .ok (.bipush 61, 2) := by decide +kernel
theorem dX9_writeFigure_83 : decode cX9_writeFigure 83 = .ok (.invokevirtual 202, 3) := by decide +kernel
theorem dX9_writeFigure_86 : decode cX9_writeFigure 86 = .ok (.aload_n 0, 1) := by decide +kernel
theorem dX9_writeFigure_87 : decode cX9_writeFigure 87 = .ok (.aload_n 0, 1) := by decide +kernel
theorem dX9_writeFigure_88 : decode cX9_writeFigure 88 = .ok (.iload_n 1, 1) := by decide +kernel
theorem dX9_writeFigure_89 : decode cX9_writeFigure 89 = .ok (.iload_n 2, 1) := by decide +kernel
theorem dX9_writeFigure_90 : decode cX9_writeFigure 90 = .ok (.iconst 2, 1) := by decide +kernel
theorem dX9_writeFigure_91 : decode cX9_writeFigure 91 = .ok (.invokevirtual 80, 3) := by decide +kernel
theorem dX9_writeFigure_94 : decode cX9_writeFigure 94 = .ok (.invokevirtual 205, 3) := by decide +kernel
theorem dX9_writeFigure_97 : decode cX9_writeFigure 97 = .ok (.iinc 2 1, 3) := by decide +kernel
theorem dX9_writeFigure_100 : decode cX9_writeFigure 100 = .ok (.goto (-67), 3) := by decide +kernel
theorem dX9_writeFigure_103 : decode cX9_writeFigure 103 = .ok (.aload_n 0, 1) := by decide +kernel
theorem dX9_writeFigure_104 : decode cX9_writeFigure 104 = .ok (.getfield 199, 3) := by decide +kernel
theorem dX9_writeFigure_107 : decode cX9_writeFigure 107 = .ok (.ireturn, 1) := by decide +kernel
theorem dX9_outputCharacter_0 : decode cX9_outputCharacter 0 = .ok (.aload_n 0, 1) := by decide +kernel
theorem dX9_outputCharacter_1 : decode cX9_outputCharacter 1 = .ok (.iload_n 1, 1) := by decide +kernel
theorem dX9_outputCharacter_2 : decode cX9_outputCharacter 2 = .ok (.iconst 0, 1) := by decide +kernel
theorem dX9_outputCharacter_3 : decode cX9_outputCharacter 3 = .ok (.aload_n 0, 1) := by decide +kernel
theorem dX9_outputCharacter_4 : decode cX9_outputCharacter 4 = .ok (.getfield 199, 3) := by decide +kernel
theorem dX9_outputCharacter_7 : decode cX9_outputCharacter 7 = .ok (.iconst 1, 1) := by decide +kernel
theorem dX9_outputCharacter_8 : decode cX9_outputCharacter 8 = .ok (.isub, 1) := by decide +kernel
theorem dX9_outputCharacter_9 : decode cX9_outputCharacter 9 = .ok (.invokestatic 57, 3) := by decide +kernel
theorem dX9_outputCharacter_12 : decode cX9_outputCharacter 12 = .ok (.ifCond .eq 7, 3) := by decide +kernel
theorem dX9_outputCharacter_15 : decode cX9_outputCharacter 15 = .ok (.iconst 0, 1) := by decide +kernel
theorem dX9_outputCharacter_16 : decode cX9_outputCharacter 16 = .ok (.goto 4, 3) := by decide +kernel
theorem dX9_outputCharacter_19 : decode cX9_outputCharacter 19 = .ok (.iconst 1, 1) := by decide +kernel
theorem dX9_outputCharacter_20 : decode cX9_outputCharacter 20 = .ok (.putfield 41, 3) := by decide +kernel
theorem dX9_outputCharacter_23 : decode cX9_outputCharacter 23 = .ok (.aload_n 0, 1) := by decide +kernel
theorem dX9_outputCharacter_24 : decode cX9_outputCharacter 24 = .ok (.getfield 41, 3) := by decide +kernel
theorem dX9_outputCharacter_27 : decode cX9_outputCharacter 27 = .ok (.ifCond .le 7, 3) := by decide +kernel
theorem dX9_outputCharacter_30 : decode cX9_outputCharacter 30 = .ok (.iconst 0, 1) := by decide +kernel
theorem dX9_outputCharacter_31 : decode cX9_outputCharacter 31 = .ok (.goto 10, 3) := by decide +kernel
theorem dX9_outputCharacter_34 : decode cX9_outputCharacter 34 = .ok (.aload_n 0, 1) := by decide +kernel
theorem dX9_outputCharacter_35 : decode cX9_outputCharacter 35 = .ok (.getfield 31, 3) := by decide +kernel
theorem dX9_outputCharacter_38 : decode cX9_outputCharacter 38 = .ok (.iload_n 1, 1) := by decide +kernel
theorem dX9_outputCharacter_39 : decode cX9_outputCharacter 39 = .ok (.iaload, 1) := by decide +kernel
theorem dX9_outputCharacter_40 : decode cX9_outputCharacter 40 = .ok (.i2c, 1) := by decide +kernel
theorem dX9_outputCharacter_41 : decode cX9_outputCharacter 41 = .ok (.ireturn, 1) := by decide +kernel
theorem dX9_isConsistent_0 : decode cX9_isConsistent 0 = .ok (.aload_n 0, 1) := by decide +kernel
theorem dX9_isConsistent_1 : decode cX9_isConsistent 1 = .ok (.iconst 0, 1) := by decide +kernel
theorem dX9_isConsistent_2 : decode cX9_isConsistent 2 = .ok (.putfield 41, 3) := by decide +kernel
theorem dX9_isConsistent_5 : decode cX9_isConsistent 5 = .ok (.iconst 1, 1) := by decide +kernel
theorem dX9_isConsistent_6 : decode cX9_isConsistent 6 = .ok (.ireturn, 1) := by decide +kernel
theorem dX9_feed_0 : decode cX9_feed 0 = .ok (.aload_n 0, 1) := by decide +kernel
theorem dX9_feed_1 : decode cX9_feed 1 = .ok (.aload_n 0, 1) := by decide +kernel
theorem dX9_feed_2 : decode cX9_feed 2 = .ok (.getfield 208, 3) := by decide +kernel
theorem dX9_feed_5 : decode cX9_feed 5 = .ok (.bipush 60, 2) := by decide +kernel
theorem dX9_feed_7 : decode cX9_feed 7 = .ok (.if_icmp .ne 7, 3) := by decide +kernel
theorem dX9_feed_10 : decode cX9_feed 10 = .ok (.iconst 1, 1) := by decide +kernel
theorem dX9_feed_11 : decode cX9_feed 11 = .ok (.goto 4, 3) := by decide +kernel
theorem dX9_feed_14 : decode cX9_feed 14 = .ok (.iconst 0, 1) := by decide +kernel
theorem dX9_feed_15 : decode cX9_feed 15 = .ok (.putfield 41, 3) := by decide +kernel
theorem dX9_feed_18 : decode cX9_feed 18 = .ok (.aload_n 0, 1) := by decide +kernel
theorem dX9_feed_19 : decode cX9_feed 19 = .ok (.getfield 41, 3) := by decide +kernel
theorem dX9_feed_22 : decode cX9_feed 22 = .ok (.ifCond .le 5, 3) := by decide +kernel
theorem dX9_feed_25 : decode cX9_feed 25 = .ok (.iconst 0, 1) := by decide +kernel
theorem dX9_feed_26 : decode cX9_feed 26 = .ok (.ireturn, 1) := by decide +kernel
theorem dX9_feed_27 : decode cX9_feed 27 = .ok (.aload_n 0, 1) := by decide +kernel
theorem dX9_feed_28 : decode cX9_feed 28 = .ok (.getfield 25, 3) := by decide +kernel
theorem dX9_feed_31 : decode cX9_feed 31 = .ok (.aload_n 0, 1) := by decide +kernel
theorem dX9_feed_32 : decode cX9_feed 32 = .ok (.getfield 208, 3) := by decide +kernel
theorem dX9_feed_35 : decode cX9_feed 35 = .ok (.iload_n 1, 1) := by decide +kernel
theorem dX9_feed_36 : decode cX9_feed 36 = .ok (.iastore, 1) := by decide +kernel
theorem dX9_feed_37 : decode cX9_feed 37 = .ok (.aload_n 0, 1) := by decide +kernel
theorem dX9_feed_38 : decode cX9_feed 38 = .ok (.dup, 1) := by decide +kernel
theorem dX9_feed_39 : decode cX9_feed 39 = .ok (.getfield 208, 3) := by decide +kernel
theorem dX9_feed_42 : decode cX9_feed 42 = .ok (.iconst 1, 1) := by decide +kernel
theorem dX9_feed_43 : decode cX9_feed 43 = .ok (.iadd, 1) := by decide +kernel
theorem dX9_feed_44 : decode cX9_feed 44 = .ok (.putfield 208, 3) := by decide +kernel
theorem dX9_feed_47 : decode cX9_feed 47 = .ok (.aload_n 0, 1) := by decide +kernel
theorem dX9_feed_48 : decode cX9_feed 48 = .ok (.getfield 208, 3) := by decide +kernel
theorem dX9_feed_51 : decode cX9_feed 51 = .ok (.ireturn, 1) := by decide +kernel
theorem dX9_here_0 : decode cX9_here 0 = .ok (.aload_n 0, 1) := by decide +kernel
theorem dX9_here_1 : decode cX9_here 1 = .ok (.getfield 211, 3) := by decide +kernel
theorem dX9_here_4 : decode cX9_here 4 = .ok (.iload_n 1, 1) := by decide +kernel
theorem dX9_here_5 : decode cX9_here 5 = .ok (.iadd, 1) := by decide +kernel
theorem dX9_here_6 : decode cX9_here 6 = .ok (.aload_n 0, 1) := by decide +kernel
theorem dX9_here_7 : decode cX9_here 7 = .ok (.getfield 214, 3) := by decide +kernel
theorem dX9_here_10 : decode cX9_here 10 = .ok (.if_icmp .ge 17, 3) := by decide +kernel
theorem dX9_here_13 : decode cX9_here 13 = .ok (.aload_n 0, 1) := by decide +kernel
theorem dX9_here_14 : decode cX9_here 14 = .ok (.getfield 25, 3) := by decide +kernel
theorem dX9_here_17 : decode cX9_here 17 = .ok (.aload_n 0, 1) := by decide +kernel
theorem dX9_here_18 : decode cX9_here 18 = .ok (.getfield 211, 3) := by decide +kernel
theorem dX9_here_21 : decode cX9_here 21 = .ok (.iload_n 1, 1) := by decide +kernel
theorem dX9_here_22 : decode cX9_here 22 = .ok (.iadd, 1) := by decide +kernel
theorem dX9_here_23 : decode cX9_here 23 = .ok (.iaload, 1) := by decide +kernel
theorem dX9_here_24 : decode cX9_here 24 = .ok (.goto 4, 3) := by decide +kernel
theorem dX9_here_27 : decode cX9_here 27 = .ok (.iconst (-1), 1) := by decide +kernel
theorem dX9_here_28 : decode cX9_here 28 = .ok (.ireturn, 1) := by decide +kernel
theorem dX9_says_0 : decode cX9_says 0 = .ok (.iconst 0, 1) := by decide +kernel
theorem dX9_says_1 : decode cX9_says 1 = .ok (.istore_n 2, 1) := by decide +kernel
theorem dX9_says_2 : decode cX9_says 2 = .ok (.iload_n 2, 1) := by decide +kernel
theorem dX9_says_3 : decode cX9_says 3 = .ok (.aload_n 1, 1) := by decide +kernel
theorem dX9_says_4 : decode cX9_says 4 = .ok (.invokevirtual 217, 3) := by decide +kernel
theorem dX9_says_7 : decode cX9_says 7 = .ok (.if_icmp .ge 59, 3) := by decide +kernel
theorem dX9_says_10 : decode cX9_says 10 = .ok (.aload_n 0, 1) := by decide +kernel
theorem dX9_says_11 : decode cX9_says 11 = .ok (.getfield 221, 3) := by decide +kernel
theorem dX9_says_14 : decode cX9_says 14 = .ok (.ifCond .ne 52, 3) := by decide +kernel
theorem dX9_says_17 : decode cX9_says 17 = .ok (.aload_n 0, 1) := by decide +kernel
theorem dX9_says_18 : decode cX9_says 18 = .ok (.aload_n 0, 1) := by decide +kernel
theorem dX9_says_19 : decode cX9_says 19 = .ok (.iconst 0, 1) := by decide +kernel
theorem dX9_says_20 : decode cX9_says 20 = .ok (.invokevirtual 225, 3) := by decide +kernel
theorem dX9_says_23 : decode cX9_says 23 = .ok (.aload_n 1, 1) := by decide +kernel
theorem dX9_says_24 : decode cX9_says 24 = .ok (.iload_n 2, 1) := by decide +kernel
theorem dX9_says_25 : decode cX9_says 25 = .ok (.invokevirtual 228, 3) := by decide +kernel
theorem dX9_says_28 : decode cX9_says 28 = .ok (.if_icmp .eq 7, 3) := by decide +kernel
theorem dX9_says_31 : decode cX9_says 31 = .ok (.iconst 1, 1) := by decide +kernel
theorem dX9_says_32 : decode cX9_says 32 = .ok (.goto 4, 3) := by decide +kernel
theorem dX9_says_35 : decode cX9_says 35 = .ok (.iconst 0, 1) := by decide +kernel
theorem dX9_says_36 : decode cX9_says 36 = .ok (.putfield 221, 3) := by decide +kernel
theorem dX9_says_39 : decode cX9_says 39 = .ok (.aload_n 0, 1) := by decide +kernel
theorem dX9_says_40 : decode cX9_says 40 = .ok (.dup, 1) := by decide +kernel
theorem dX9_says_41 : decode cX9_says 41 = .ok (.getfield 211, 3) := by decide +kernel
theorem dX9_says_44 : decode cX9_says 44 = .ok (.aload_n 0, 1) := by decide +kernel
theorem dX9_says_45 : decode cX9_says 45 = .ok (.getfield 221, 3) := by decide +kernel
theorem dX9_says_48 : decode cX9_says 48 = .ok (.ifCond .eq 7, 3) := by decide +kernel
theorem dX9_says_51 : decode cX9_says 51 = .ok (.iconst 0, 1) := by decide +kernel
theorem dX9_says_52 : decode cX9_says 52 = .ok (.goto 4, 3) := by decide +kernel
theorem dX9_says_55 : decode cX9_says 55 = .ok (.iconst 1, 1) := by decide +kernel
theorem dX9_says_56 : decode cX9_says 56 = .ok (.iadd, 1) := by decide +kernel
theorem dX9_says_57 : decode cX9_says 57 = .ok (.putfield 211, 3) := by decide +kernel
theorem dX9_says_60 : decode cX9_says 60 = .ok (.iinc 2 1, 3) := by decide +kernel
theorem dX9_says_63 : decode cX9_says 63 = .ok (.goto (-61), 3) := by decide +kernel
theorem dX9_says_66 : decode cX9_says 66 = .ok (.return_, 1) := by decide +kernel
theorem dX9_number_0 : decode cX9_number 0 = .ok (.iconst 0, 1) := by decide +kernel
theorem dX9_number_1 : decode cX9_number 1 = .ok (.istore_n 3, 1) := by decide +kernel
theorem dX9_number_2 : decode cX9_number 2 = .ok (.iconst 0, 1) := by decide +kernel
theorem dX9_number_3 : decode cX9_number 3 = .ok (.istore 4, 2) := by decide +kernel
theorem dX9_number_5 : decode cX9_number 5 = .ok (.aload_n 0, 1) := by decide +kernel
theorem dX9_number_6 : decode cX9_number 6 = .ok (.getfield 221, 3) := by decide +kernel
theorem dX9_number_9 : decode cX9_number 9 = .ok (.ifCond .ne 54, 3) := by decide +kernel
theorem dX9_number_12 : decode cX9_number 12 = .ok (.iload 4, 2) := by decide +kernel
theorem dX9_number_14 : decode cX9_number 14 = .ok (.iload_n 2, 1) := by decide +kernel
theorem dX9_number_15 : decode cX9_number 15 = .ok (.if_icmp .ge 48, 3) := by decide +kernel
theorem dX9_number_18 : decode cX9_number 18 = .ok (.aload_n 0, 1) := by decide +kernel
theorem dX9_number_19 : decode cX9_number 19 = .ok (.iconst 0, 1) := by decide +kernel
theorem dX9_number_20 : decode cX9_number 20 = .ok (.invokevirtual 225, 3) := by decide +kernel
theorem dX9_number_23 : decode cX9_number 23 = .ok (.bipush 48, 2) := by decide +kernel
theorem dX9_number_25 : decode cX9_number 25 = .ok (.bipush 57, 2) := by decide +kernel
theorem dX9_number_27 : decode cX9_number 27 = .ok (.invokestatic 57, 3) := by decide +kernel
theorem dX9_number_30 : decode cX9_number 30 = .ok (.ifCond .eq 33, 3) := by decide +kernel
theorem dX9_number_33 : decode cX9_number 33 = .ok (.bipush 10, 2) := by decide +kernel
theorem dX9_number_35 : decode cX9_number 35 = .ok (.iload_n 3, 1) := by decide +kernel
theorem dX9_number_36 : decode cX9_number 36 = .ok (.imul, 1) := by decide +kernel
theorem dX9_number_37 : decode cX9_number 37 = .ok (.aload_n 0, 1) := by decide +kernel
theorem dX9_number_38 : decode cX9_number 38 = .ok (.iconst 0, 1) := by decide +kernel
theorem dX9_number_39 : decode cX9_number 39 = .ok (.invokevirtual 225, 3) := by decide +kernel
theorem dX9_number_42 : decode cX9_number 42 = .ok (.iadd, 1) := by decide +kernel
theorem dX9_number_43 : decode cX9_number 43 = .ok (.bipush 48, 2) := by decide +kernel
theorem dX9_number_45 : decode cX9_number 45 = .ok (.isub, 1) := by decide +kernel
theorem dX9_number_46 : decode cX9_number 46 = .ok (.istore_n 3, 1) := by decide +kernel
theorem dX9_number_47 : decode cX9_number 47 = .ok (.aload_n 0, 1) := by decide +kernel
theorem dX9_number_48 : decode cX9_number 48 = .ok (.dup, 1) := by decide +kernel
theorem dX9_number_49 : decode cX9_number 49 = .ok (.getfield 211, 3) := by decide +kernel
theorem dX9_number_52 : decode cX9_number 52 = .ok (.iconst 1, 1) := by decide +kernel
theorem dX9_number_53 : decode cX9_number 53 = .ok (.iadd, 1) := by decide +kernel
theorem dX9_number_54 : decode cX9_number 54 = .ok (.putfield 211, 3) := by decide +kernel
theorem dX9_number_57 : decode cX9_number 57 = .ok (.iinc 4 1, 3) := by decide +kernel
theorem dX9_number_60 : decode cX9_number 60 = .ok (.goto (-55), 3) := by decide +kernel
theorem dX9_number_63 : decode cX9_number 63 = .ok (.aload_n 0, 1) := by decide +kernel
theorem dX9_number_64 : decode cX9_number 64 = .ok (.aload_n 0, 1) := by decide +kernel
theorem dX9_number_65 : decode cX9_number 65 = .ok (.getfield 221, 3) := by decide +kernel
theorem dX9_number_68 : decode cX9_number 68 = .ok (.ifCond .ne 8, 3) := by decide +kernel
theorem dX9_number_71 : decode cX9_number 71 = .ok (.iload 4, 2) := by decide +kernel
theorem dX9_number_73 : decode cX9_number 73 = .ok (.ifCond .ne 7, 3) := by decide +kernel
theorem dX9_number_76 : decode cX9_number 76 = .ok (.iconst 1, 1) := by decide +kernel
theorem dX9_number_77 : decode cX9_number 77 = .ok (.goto 4, 3) := by decide +kernel
theorem dX9_number_80 : decode cX9_number 80 = .ok (.iconst 0, 1) := by decide +kernel
theorem dX9_number_81 : decode cX9_number 81 = .ok (.putfield 221, 3) := by decide +kernel
theorem dX9_number_84 : decode cX9_number 84 = .ok (.aload_n 0, 1) := by decide +kernel
theorem dX9_number_85 : decode cX9_number 85 = .ok (.getfield 28, 3) := by decide +kernel
theorem dX9_number_88 : decode cX9_number 88 = .ok (.iconst 5, 1) := by decide +kernel
theorem dX9_number_89 : decode cX9_number 89 = .ok (.aload_n 0, 1) := by decide +kernel
theorem dX9_number_90 : decode cX9_number 90 = .ok (.getfield 232, 3) := by decide +kernel
theorem dX9_number_93 : decode cX9_number 93 = .ok (.imul, 1) := by decide +kernel
theorem dX9_number_94 : decode cX9_number 94 = .ok (.iload_n 1, 1) := by decide +kernel
theorem dX9_number_95 : decode cX9_number 95 = .ok (.iadd, 1) := by decide +kernel
theorem dX9_number_96 : decode cX9_number 96 = .ok (.iload_n 3, 1) := by decide +kernel
theorem dX9_number_97 : decode cX9_number 97 = .ok (.iastore, 1) := by decide +kernel
theorem dX9_number_98 : decode cX9_number 98 = .ok (.return_, 1) := by decide +kernel
theorem dX9_one_0 : decode cX9_one 0 = .ok (.aload_n 0, 1) := by decide +kernel
theorem dX9_one_1 : decode cX9_one 1 = .ok (.getfield 28, 3) := by decide +kernel
theorem dX9_one_4 : decode cX9_one 4 = .ok (.iconst 5, 1) := by decide +kernel
theorem dX9_one_5 : decode cX9_one 5 = .ok (.aload_n 0, 1) := by decide +kernel
theorem dX9_one_6 : decode cX9_one 6 = .ok (.getfield 232, 3) := by decide +kernel
theorem dX9_one_9 : decode cX9_one 9 = .ok (.imul, 1) := by decide +kernel
theorem dX9_one_10 : decode cX9_one 10 = .ok (.iload_n 1, 1) := by decide +kernel
theorem dX9_one_11 : decode cX9_one 11 = .ok (.iastore, 1) := by decide +kernel
theorem dX9_one_12 : decode cX9_one 12 = .ok (.aload_n 0, 1) := by decide +kernel
theorem dX9_one_13 : decode cX9_one 13 = .ok (.aload_n 2, 1) := by decide +kernel
theorem dX9_one_14 : decode cX9_one 14 = .ok (.invokevirtual 235, 3) := by decide +kernel
theorem dX9_one_17 : decode cX9_one 17 = .ok (.aload_n 0, 1) := by decide +kernel
theorem dX9_one_18 : decode cX9_one 18 = .ok (.iconst 1, 1) := by decide +kernel
theorem dX9_one_19 : decode cX9_one 19 = .ok (.iload_n 3, 1) := by decide +kernel
theorem dX9_one_20 : decode cX9_one 20 = .ok (.invokevirtual 239, 3) := by decide +kernel
theorem dX9_one_23 : decode cX9_one 23 = .ok (.return_, 1) := by decide +kernel
theorem dX9_two_0 : decode cX9_two 0 = .ok (.aload_n 0, 1) := by decide +kernel
theorem dX9_two_1 : decode cX9_two 1 = .ok (.iload_n 1, 1) := by decide +kernel
theorem dX9_two_2 : decode cX9_two 2 = .ok (.aload_n 2, 1) := by decide +kernel
theorem dX9_two_3 : decode cX9_two 3 = .ok (.iconst 1, 1) := by decide +kernel
theorem dX9_two_4 : decode cX9_two 4 = .ok (.invokevirtual 242, 3) := by decide +kernel
theorem dX9_two_7 : decode cX9_two 7 = .ok (.aload_n 0, 1) := by decide +kernel
theorem dX9_two_8 : decode cX9_two 8 = .ok (.aload_n 3, 1) := by decide +kernel
theorem dX9_two_9 : decode cX9_two 9 = .ok (.invokevirtual 235, 3) := by decide +kernel
theorem dX9_two_12 : decode cX9_two 12 = .ok (.aload_n 0, 1) := by decide +kernel
theorem dX9_two_13 : decode cX9_two 13 = .ok (.iconst 2, 1) := by decide +kernel
theorem dX9_two_14 : decode cX9_two 14 = .ok (.iconst 3, 1) := by decide +kernel
theorem dX9_two_15 : decode cX9_two 15 = .ok (.invokevirtual 239, 3) := by decide +kernel
theorem dX9_two_18 : decode cX9_two 18 = .ok (.return_, 1) := by decide +kernel
theorem dX9_breeze_0 : decode cX9_breeze 0 = .ok (.aload_n 0, 1) := by decide +kernel
theorem dX9_breeze_1 : decode cX9_breeze 1 = .ok (.getfield 28, 3) := by decide +kernel
theorem dX9_breeze_4 : decode cX9_breeze 4 = .ok (.iconst 5, 1) := by decide +kernel
theorem dX9_breeze_5 : decode cX9_breeze 5 = .ok (.aload_n 0, 1) := by decide +kernel
theorem dX9_breeze_6 : decode cX9_breeze 6 = .ok (.getfield 232, 3) := by decide +kernel
theorem dX9_breeze_9 : decode cX9_breeze 9 = .ok (.imul, 1) := by decide +kernel
theorem dX9_breeze_10 : decode cX9_breeze 10 = .ok (.bipush 119, 2) := by decide +kernel
theorem dX9_breeze_12 : decode cX9_breeze 12 = .ok (.iastore, 1) := by decide +kernel
theorem dX9_breeze_13 : decode cX9_breeze 13 = .ok (.aload_n 0, 1) := by decide +kernel
theorem dX9_breeze_14 : decode cX9_breeze 14 = .ok (.ldc 246, 2) := by decide +kernel
theorem dX9_breeze_16 : decode cX9_breeze 16 = .ok (.invokevirtual 235, 3) := by decide +kernel
theorem dX9_breeze_19 : decode cX9_breeze 19 = .ok (.aload_n 0, 1) := by decide +kernel
theorem dX9_breeze_20 : decode cX9_breeze 20 = .ok (.iconst 0, 1) := by decide +kernel
theorem dX9_breeze_21 : decode cX9_breeze 21 = .ok (.invokevirtual 225, 3) := by decide +kernel
theorem dX9_breeze_24 : decode cX9_breeze 24 = .ok (.bipush 45, 2) := by decide +kernel
theorem dX9_breeze_26 : decode cX9_breeze 26 = .ok (.if_icmp .ne 7, 3) := by decide +kernel
theorem dX9_breeze_29 : decode cX9_breeze 29 = .ok (.iconst 1, 1) := by decide +kernel
theorem dX9_breeze_30 : decode cX9_breeze 30 = .ok (.goto 4, 3) := by decide +kernel
theorem dX9_breeze_33 : decode cX9_breeze 33 = .ok (.iconst 0, 1) := by decide +kernel
theorem dX9_breeze_34 : decode cX9_breeze 34 = .ok (.istore_n 1, 1) := by decide +kernel
theorem dX9_breeze_35 : decode cX9_breeze 35 = .ok (.aload_n 0, 1) := by decide +kernel
theorem dX9_breeze_36 : decode cX9_breeze 36 = .ok (.aload_n 0, 1) := by decide +kernel
theorem dX9_breeze_37 : decode cX9_breeze 37 = .ok (.getfield 221, 3) := by decide +kernel
theorem dX9_breeze_40 : decode cX9_breeze 40 = .ok (.ifCond .ne 17, 3) := by decide +kernel
theorem dX9_breeze_43 : decode cX9_breeze 43 = .ok (.iload_n 1, 1) := by decide +kernel
theorem dX9_breeze_44 : decode cX9_breeze 44 = .ok (.ifCond .ne 17, 3) := by decide +kernel
theorem dX9_breeze_47 : decode cX9_breeze 47 = .ok (.aload_n 0, 1) := by decide +kernel
theorem dX9_breeze_48 : decode cX9_breeze 48 = .ok (.iconst 0, 1) := by decide +kernel
theorem dX9_breeze_49 : decode cX9_breeze 49 = .ok (.invokevirtual 225, 3) := by decide +kernel
theorem dX9_breeze_52 : decode cX9_breeze 52 = .ok (.bipush 43, 2) := by decide +kernel
theorem dX9_breeze_54 : decode cX9_breeze 54 = .ok (.if_icmp .eq 7, 3) := by decide +kernel
theorem dX9_breeze_57 : decode cX9_breeze 57 = .ok (.iconst 1, 1) := by decide +kernel
theorem dX9_breeze_58 : decode cX9_breeze 58 = .ok (.goto 4, 3) := by decide +kernel
theorem dX9_breeze_61 : decode cX9_breeze 61 = .ok (.iconst 0, 1) := by decide +kernel
theorem dX9_breeze_62 : decode cX9_breeze 62 = .ok (.putfield 221, 3) := by decide +kernel
theorem dX9_breeze_65 : decode cX9_breeze 65 = .ok (.aload_n 0, 1) := by decide +kernel
theorem dX9_breeze_66 : decode cX9_breeze 66 = .ok (.dup, 1) := by decide +kernel
theorem dX9_breeze_67 : decode cX9_breeze 67 = .ok (.getfield 211, 3) := by decide +kernel
theorem dX9_breeze_70 : decode cX9_breeze 70 = .ok (.aload_n 0, 1) := by decide +kernel
theorem dX9_breeze_71 : decode cX9_breeze 71 = .ok (.getfield 221, 3) := by decide +kernel
theorem dX9_breeze_74 : decode cX9_breeze 74 = .ok (.ifCond .eq 7, 3) := by decide +kernel
theorem dX9_breeze_77 : decode cX9_breeze 77 = .ok (.iconst 0, 1) := by decide +kernel
theorem dX9_breeze_78 : decode cX9_breeze 78 = .ok (.goto 4, 3) := by decide +kernel
theorem dX9_breeze_81 : decode cX9_breeze 81 = .ok (.iconst 1, 1) := by decide +kernel
theorem dX9_breeze_82 : decode cX9_breeze 82 = .ok (.iadd, 1) := by decide +kernel
theorem dX9_breeze_83 : decode cX9_breeze 83 = .ok (.putfield 211, 3) := by decide +kernel
theorem dX9_breeze_86 : decode cX9_breeze 86 = .ok (.aload_n 0, 1) := by decide +kernel
theorem dX9_breeze_87 : decode cX9_breeze 87 = .ok (.iconst 1, 1) := by decide +kernel
theorem dX9_breeze_88 : decode cX9_breeze 88 = .ok (.iconst 1, 1) := by decide +kernel
theorem dX9_breeze_89 : decode cX9_breeze 89 = .ok (.invokevirtual 239, 3) := by decide +kernel
theorem dX9_breeze_92 : decode cX9_breeze 92 = .ok (.iload_n 1, 1) := by decide +kernel
theorem dX9_breeze_93 : decode cX9_breeze 93 = .ok (.ifCond .eq 30, 3) := by decide +kernel
theorem dX9_breeze_96 : decode cX9_breeze 96 = .ok (.aload_n 0, 1) := by decide +kernel
theorem dX9_breeze_97 : decode cX9_breeze 97 = .ok (.getfield 28, 3) := by decide +kernel
theorem dX9_breeze_100 : decode cX9_breeze 100 = .ok (.iconst 5, 1) := by decide +kernel
theorem dX9_breeze_101 : decode cX9_breeze 101 = .ok (.aload_n 0, 1) := by decide +kernel
theorem dX9_breeze_102 : decode cX9_breeze 102 = .ok (.getfield 232, 3) := by decide +kernel
theorem dX9_breeze_105 : decode cX9_breeze 105 = .ok (.imul, 1) := by decide +kernel
theorem dX9_breeze_106 : decode cX9_breeze 106 = .ok (.iconst 1, 1) := by decide +kernel
theorem dX9_breeze_107 : decode cX9_breeze 107 = .ok (.iadd, 1) := by decide +kernel
theorem dX9_breeze_108 : decode cX9_breeze 108 = .ok (.aload_n 0, 1) := by decide +kernel
theorem dX9_breeze_109 : decode cX9_breeze 109 = .ok (.getfield 28, 3) := by decide +kernel
theorem dX9_breeze_112 : decode cX9_breeze 112 = .ok (.iconst 5, 1) := by decide +kernel
theorem dX9_breeze_113 : decode cX9_breeze 113 = .ok (.aload_n 0, 1) := by decide +kernel
theorem dX9_breeze_114 : decode cX9_breeze 114 = .ok (.getfield 232, 3) := by decide +kernel
theorem dX9_breeze_117 : decode cX9_breeze 117 = .ok (.imul, 1) := by decide +kernel
theorem dX9_breeze_118 : decode cX9_breeze 118 = .ok (.iconst 1, 1) := by decide +kernel
theorem dX9_breeze_119 : decode cX9_breeze 119 = .ok (.iadd, 1) := by decide +kernel
theorem dX9_breeze_120 : decode cX9_breeze 120 = .ok (.iaload, 1) := by decide +kernel
theorem dX9_breeze_121 : decode cX9_breeze 121 = .ok (.ineg, 1) := by decide +kernel
theorem dX9_breeze_122 : decode cX9_breeze 122 = .ok (.iastore, 1) := by decide +kernel
theorem dX9_breeze_123 : decode cX9_breeze 123 = .ok (.return_, 1) := by decide +kernel
theorem dX9_readsOne_0 : decode cX9_readsOne 0 = .ok (.aload_n 0, 1) := by decide +kernel
theorem dX9_readsOne_1 : decode cX9_readsOne 1 = .ok (.iconst 0, 1) := by decide +kernel
theorem dX9_readsOne_2 : decode cX9_readsOne 2 = .ok (.invokevirtual 225, 3) := by decide +kernel
theorem dX9_readsOne_5 : decode cX9_readsOne 5 = .ok (.istore_n 1, 1) := by decide +kernel
theorem dX9_readsOne_6 : decode cX9_readsOne 6 = .ok (.aload_n 0, 1) := by decide +kernel
theorem dX9_readsOne_7 : decode cX9_readsOne 7 = .ok (.getfield 28, 3) := by decide +kernel
theorem dX9_readsOne_10 : decode cX9_readsOne 10 = .ok (.iconst 5, 1) := by decide +kernel
theorem dX9_readsOne_11 : decode cX9_readsOne 11 = .ok (.aload_n 0, 1) := by decide +kernel
theorem dX9_readsOne_12 : decode cX9_readsOne 12 = .ok (.getfield 232, 3) := by decide +kernel
theorem dX9_readsOne_15 : decode cX9_readsOne 15 = .ok (.imul, 1) := by decide +kernel
theorem dX9_readsOne_16 : decode cX9_readsOne 16 = .ok (.iload_n 1, 1) := by decide +kernel
theorem dX9_readsOne_17 : decode cX9_readsOne 17 = .ok (.iastore, 1) := by decide +kernel
theorem dX9_readsOne_18 : decode cX9_readsOne 18 = .ok (.iload_n 1, 1) := by decide +kernel
theorem dX9_readsOne_19 : decode cX9_readsOne 19 = .ok (.tableswitch 238 102 119 #[188, 238, 238, 238, 85, 238, 238, 238, 238, 97, 110, 238, 238, 198, 178, 238, 238, 171], 85) := by decide +kernel
theorem dX9_readsOne_104 : decode cX9_readsOne 104 = .ok (.aload_n 0, 1) := by decide +kernel
theorem dX9_readsOne_105 : decode cX9_readsOne 105 = .ok (.bipush 106, 2) := by decide +kernel
theorem dX9_readsOne_107 : decode cX9_readsOne 107 = .ok (.ldc 248, 2) := by decide +kernel
theorem dX9_readsOne_109 : decode cX9_readsOne 109 = .ok (.iconst 3, 1) := by decide +kernel
theorem dX9_readsOne_110 : decode cX9_readsOne 110 = .ok (.invokevirtual 242, 3) := by decide +kernel
theorem dX9_readsOne_113 : decode cX9_readsOne 113 = .ok (.goto 149, 3) := by decide +kernel
theorem dX9_readsOne_116 : decode cX9_readsOne 116 = .ok (.aload_n 0, 1) := by decide +kernel
theorem dX9_readsOne_117 : decode cX9_readsOne 117 = .ok (.bipush 111, 2) := by decide +kernel
theorem dX9_readsOne_119 : decode cX9_readsOne 119 = .ok (.ldc 250, 2) := by decide +kernel
theorem dX9_readsOne_121 : decode cX9_readsOne 121 = .ok (.ldc 252, 2) := by decide +kernel
theorem dX9_readsOne_123 : decode cX9_readsOne 123 = .ok (.invokevirtual 254, 3) := by decide +kernel
theorem dX9_readsOne_126 : decode cX9_readsOne 126 = .ok (.goto 136, 3) := by decide +kernel
theorem dX9_readsOne_129 : decode cX9_readsOne 129 = .ok (.aload_n 0, 1) := by decide +kernel
theorem dX9_readsOne_130 : decode cX9_readsOne 130 = .ok (.iconst 1, 1) := by decide +kernel
theorem dX9_readsOne_131 : decode cX9_readsOne 131 = .ok (.invokevirtual 225, 3) := by decide +kernel
theorem dX9_readsOne_134 : decode cX9_readsOne 134 = .ok (.bipush 108, 2) := by decide +kernel
theorem dX9_readsOne_136 : decode cX9_readsOne 136 = .ok (.if_icmp .ne 18, 3) := by decide +kernel
theorem dX9_readsOne_139 : decode cX9_readsOne 139 = .ok (.aload_n 0, 1) := by decide +kernel
theorem dX9_readsOne_140 : decode cX9_readsOne 140 = .ok (.bipush 108, 2) := by decide +kernel
theorem dX9_readsOne_142 : decode cX9_readsOne 142 = .ok (.ldc_w 258, 3) := by decide +kernel
theorem dX9_readsOne_145 : decode cX9_readsOne 145 = .ok (.ldc_w 260, 3) := by decide +kernel
theorem dX9_readsOne_148 : decode cX9_readsOne 148 = .ok (.invokevirtual 254, 3) := by decide +kernel
theorem dX9_readsOne_151 : decode cX9_readsOne 151 = .ok (.goto 111, 3) := by decide +kernel
theorem dX9_readsOne_154 : decode cX9_readsOne 154 = .ok (.aload_n 0, 1) := by decide +kernel
theorem dX9_readsOne_155 : decode cX9_readsOne 155 = .ok (.iconst 1, 1) := by decide +kernel
theorem dX9_readsOne_156 : decode cX9_readsOne 156 = .ok (.invokevirtual 225, 3) := by decide +kernel
theorem dX9_readsOne_159 : decode cX9_readsOne 159 = .ok (.bipush 97, 2) := by decide +kernel
theorem dX9_readsOne_161 : decode cX9_readsOne 161 = .ok (.if_icmp .ne 16, 3) := by decide +kernel
theorem dX9_readsOne_164 : decode cX9_readsOne 164 = .ok (.aload_n 0, 1) := by decide +kernel
theorem dX9_readsOne_165 : decode cX9_readsOne 165 = .ok (.bipush 97, 2) := by decide +kernel
theorem dX9_readsOne_167 : decode cX9_readsOne 167 = .ok (.ldc_w 262, 3) := by decide +kernel
theorem dX9_readsOne_170 : decode cX9_readsOne 170 = .ok (.iconst 3, 1) := by decide +kernel
theorem dX9_readsOne_171 : decode cX9_readsOne 171 = .ok (.invokevirtual 242, 3) := by decide +kernel
theorem dX9_readsOne_174 : decode cX9_readsOne 174 = .ok (.goto 88, 3) := by decide +kernel
theorem dX9_readsOne_177 : decode cX9_readsOne 177 = .ok (.aload_n 0, 1) := by decide +kernel
theorem dX9_readsOne_178 : decode cX9_readsOne 178 = .ok (.bipush 112, 2) := by decide +kernel
theorem dX9_readsOne_180 : decode cX9_readsOne 180 = .ok (.ldc_w 264, 3) := by decide +kernel
theorem dX9_readsOne_183 : decode cX9_readsOne 183 = .ok (.iconst 3, 1) := by decide +kernel
theorem dX9_readsOne_184 : decode cX9_readsOne 184 = .ok (.invokevirtual 242, 3) := by decide +kernel
theorem dX9_readsOne_187 : decode cX9_readsOne 187 = .ok (.goto 75, 3) := by decide +kernel
theorem dX9_readsOne_190 : decode cX9_readsOne 190 = .ok (.aload_n 0, 1) := by decide +kernel
theorem dX9_readsOne_191 : decode cX9_readsOne 191 = .ok (.invokevirtual 266, 3) := by decide +kernel
theorem dX9_readsOne_194 : decode cX9_readsOne 194 = .ok (.goto 68, 3) := by decide +kernel
theorem dX9_readsOne_197 : decode cX9_readsOne 197 = .ok (.aload_n 0, 1) := by decide +kernel
theorem dX9_readsOne_198 : decode cX9_readsOne 198 = .ok (.ldc_w 269, 3) := by decide +kernel
theorem dX9_readsOne_201 : decode cX9_readsOne 201 = .ok (.invokevirtual 235, 3) := by decide +kernel
theorem dX9_readsOne_204 : decode cX9_readsOne 204 = .ok (.goto 58, 3) := by decide +kernel
theorem dX9_readsOne_207 : decode cX9_readsOne 207 = .ok (.aload_n 0, 1) := by decide +kernel
theorem dX9_readsOne_208 : decode cX9_readsOne 208 = .ok (.ldc_w 271, 3) := by decide +kernel
theorem dX9_readsOne_211 : decode cX9_readsOne 211 = .ok (.invokevirtual 235, 3) := by decide +kernel
theorem dX9_readsOne_214 : decode cX9_readsOne 214 = .ok (.goto 48, 3) := by decide +kernel
theorem dX9_readsOne_217 : decode cX9_readsOne 217 = .ok (.aload_n 0, 1) := by decide +kernel
theorem dX9_readsOne_218 : decode cX9_readsOne 218 = .ok (.bipush 115, 2) := by decide +kernel
theorem dX9_readsOne_220 : decode cX9_readsOne 220 = .ok (.ldc_w 273, 3) := by decide +kernel
theorem dX9_readsOne_223 : decode cX9_readsOne 223 = .ok (.ldc_w 260, 3) := by decide +kernel
theorem dX9_readsOne_226 : decode cX9_readsOne 226 = .ok (.invokevirtual 254, 3) := by decide +kernel
theorem dX9_readsOne_229 : decode cX9_readsOne 229 = .ok (.aload_n 0, 1) := by decide +kernel
theorem dX9_readsOne_230 : decode cX9_readsOne 230 = .ok (.ldc_w 275, 3) := by decide +kernel
theorem dX9_readsOne_233 : decode cX9_readsOne 233 = .ok (.invokevirtual 235, 3) := by decide +kernel
theorem dX9_readsOne_236 : decode cX9_readsOne 236 = .ok (.aload_n 0, 1) := by decide +kernel
theorem dX9_readsOne_237 : decode cX9_readsOne 237 = .ok (.iconst 3, 1) := by decide +kernel
theorem dX9_readsOne_238 : decode cX9_readsOne 238 = .ok (.iconst 1, 1) := by decide +kernel
theorem dX9_readsOne_239 : decode cX9_readsOne 239 = .ok (.invokevirtual 239, 3) := by decide +kernel
theorem dX9_readsOne_242 : decode cX9_readsOne 242 = .ok (.aload_n 0, 1) := by decide +kernel
theorem dX9_readsOne_243 : decode cX9_readsOne 243 = .ok (.ldc 252, 2) := by decide +kernel
theorem dX9_readsOne_245 : decode cX9_readsOne 245 = .ok (.invokevirtual 235, 3) := by decide +kernel
theorem dX9_readsOne_248 : decode cX9_readsOne 248 = .ok (.aload_n 0, 1) := by decide +kernel
theorem dX9_readsOne_249 : decode cX9_readsOne 249 = .ok (.iconst 4, 1) := by decide +kernel
theorem dX9_readsOne_250 : decode cX9_readsOne 250 = .ok (.iconst 3, 1) := by decide +kernel
theorem dX9_readsOne_251 : decode cX9_readsOne 251 = .ok (.invokevirtual 239, 3) := by decide +kernel
theorem dX9_readsOne_254 : decode cX9_readsOne 254 = .ok (.goto 8, 3) := by decide +kernel
theorem dX9_readsOne_257 : decode cX9_readsOne 257 = .ok (.aload_n 0, 1) := by decide +kernel
theorem dX9_readsOne_258 : decode cX9_readsOne 258 = .ok (.iconst 1, 1) := by decide +kernel
theorem dX9_readsOne_259 : decode cX9_readsOne 259 = .ok (.putfield 221, 3) := by decide +kernel
theorem dX9_readsOne_262 : decode cX9_readsOne 262 = .ok (.aload_n 0, 1) := by decide +kernel
theorem dX9_readsOne_263 : decode cX9_readsOne 263 = .ok (.dup, 1) := by decide +kernel
theorem dX9_readsOne_264 : decode cX9_readsOne 264 = .ok (.getfield 232, 3) := by decide +kernel
theorem dX9_readsOne_267 : decode cX9_readsOne 267 = .ok (.iconst 1, 1) := by decide +kernel
theorem dX9_readsOne_268 : decode cX9_readsOne 268 = .ok (.iadd, 1) := by decide +kernel
theorem dX9_readsOne_269 : decode cX9_readsOne 269 = .ok (.putfield 232, 3) := by decide +kernel
theorem dX9_readsOne_272 : decode cX9_readsOne 272 = .ok (.return_, 1) := by decide +kernel
theorem dX9_does_0 : decode cX9_does 0 = .ok (.aload_n 0, 1) := by decide +kernel
theorem dX9_does_1 : decode cX9_does 1 = .ok (.getfield 28, 3) := by decide +kernel
theorem dX9_does_4 : decode cX9_does 4 = .ok (.iconst 5, 1) := by decide +kernel
theorem dX9_does_5 : decode cX9_does 5 = .ok (.iload_n 1, 1) := by decide +kernel
theorem dX9_does_6 : decode cX9_does 6 = .ok (.imul, 1) := by decide +kernel
theorem dX9_does_7 : decode cX9_does 7 = .ok (.iconst 1, 1) := by decide +kernel
theorem dX9_does_8 : decode cX9_does 8 = .ok (.iadd, 1) := by decide +kernel
theorem dX9_does_9 : decode cX9_does 9 = .ok (.iaload, 1) := by decide +kernel
theorem dX9_does_10 : decode cX9_does 10 = .ok (.istore_n 2, 1) := by decide +kernel
theorem dX9_does_11 : decode cX9_does 11 = .ok (.aload_n 0, 1) := by decide +kernel
theorem dX9_does_12 : decode cX9_does 12 = .ok (.getfield 28, 3) := by decide +kernel
theorem dX9_does_15 : decode cX9_does 15 = .ok (.iconst 5, 1) := by decide +kernel
theorem dX9_does_16 : decode cX9_does 16 = .ok (.iload_n 1, 1) := by decide +kernel
theorem dX9_does_17 : decode cX9_does 17 = .ok (.imul, 1) := by decide +kernel
theorem dX9_does_18 : decode cX9_does 18 = .ok (.iconst 2, 1) := by decide +kernel
theorem dX9_does_19 : decode cX9_does 19 = .ok (.iadd, 1) := by decide +kernel
theorem dX9_does_20 : decode cX9_does 20 = .ok (.iaload, 1) := by decide +kernel
theorem dX9_does_21 : decode cX9_does 21 = .ok (.istore_n 3, 1) := by decide +kernel
theorem dX9_does_22 : decode cX9_does 22 = .ok (.aload_n 0, 1) := by decide +kernel
theorem dX9_does_23 : decode cX9_does 23 = .ok (.getfield 28, 3) := by decide +kernel
theorem dX9_does_26 : decode cX9_does 26 = .ok (.iconst 5, 1) := by decide +kernel
theorem dX9_does_27 : decode cX9_does 27 = .ok (.iload_n 1, 1) := by decide +kernel
theorem dX9_does_28 : decode cX9_does 28 = .ok (.imul, 1) := by decide +kernel
theorem dX9_does_29 : decode cX9_does 29 = .ok (.iaload, 1) := by decide +kernel
theorem dX9_does_30 : decode cX9_does 30 = .ok (.tableswitch 154 97 119 #[126, 154, 154, 154, 154, 149, 154, 154, 154, 106, 154, 119, 154, 154, 112, 132, 154, 154, 154, 144, 154, 154, 138], 106) := by decide +kernel
theorem dX9_does_136 : decode cX9_does 136 = .ok (.aload_n 0, 1) := by decide +kernel
theorem dX9_does_137 : decode cX9_does 137 = .ok (.iload_n 2, 1) := by decide +kernel
theorem dX9_does_138 : decode cX9_does 138 = .ok (.invokevirtual 127, 3) := by decide +kernel
theorem dX9_does_141 : decode cX9_does 141 = .ok (.ireturn, 1) := by decide +kernel
theorem dX9_does_142 : decode cX9_does 142 = .ok (.aload_n 0, 1) := by decide +kernel
theorem dX9_does_143 : decode cX9_does 143 = .ok (.iload_n 2, 1) := by decide +kernel
theorem dX9_does_144 : decode cX9_does 144 = .ok (.iload_n 3, 1) := by decide +kernel
theorem dX9_does_145 : decode cX9_does 145 = .ok (.invokevirtual 136, 3) := by decide +kernel
theorem dX9_does_148 : decode cX9_does 148 = .ok (.ireturn, 1) := by decide +kernel
theorem dX9_does_149 : decode cX9_does 149 = .ok (.aload_n 0, 1) := by decide +kernel
theorem dX9_does_150 : decode cX9_does 150 = .ok (.iload_n 2, 1) := by decide +kernel
theorem dX9_does_151 : decode cX9_does 151 = .ok (.iload_n 3, 1) := by decide +kernel
theorem dX9_does_152 : decode cX9_does 152 = .ok (.invokevirtual 178, 3) := by decide +kernel
theorem dX9_does_155 : decode cX9_does 155 = .ok (.ireturn, 1) := by decide +kernel
theorem dX9_does_156 : decode cX9_does 156 = .ok (.aload_n 0, 1) := by decide +kernel
theorem dX9_does_157 : decode cX9_does 157 = .ok (.iload_n 2, 1) := by decide +kernel
theorem dX9_does_158 : decode cX9_does 158 = .ok (.invokevirtual 184, 3) := by decide +kernel
theorem dX9_does_161 : decode cX9_does 161 = .ok (.ireturn, 1) := by decide +kernel
theorem dX9_does_162 : decode cX9_does 162 = .ok (.aload_n 0, 1) := by decide +kernel
theorem dX9_does_163 : decode cX9_does 163 = .ok (.iload_n 2, 1) := by decide +kernel
theorem dX9_does_164 : decode cX9_does 164 = .ok (.invokevirtual 150, 3) := by decide +kernel
theorem dX9_does_167 : decode cX9_does 167 = .ok (.ireturn, 1) := by decide +kernel
theorem dX9_does_168 : decode cX9_does 168 = .ok (.aload_n 0, 1) := by decide +kernel
theorem dX9_does_169 : decode cX9_does 169 = .ok (.iload_n 2, 1) := by decide +kernel
theorem dX9_does_170 : decode cX9_does 170 = .ok (.invokevirtual 153, 3) := by decide +kernel
theorem dX9_does_173 : decode cX9_does 173 = .ok (.ireturn, 1) := by decide +kernel
theorem dX9_does_174 : decode cX9_does 174 = .ok (.aload_n 0, 1) := by decide +kernel
theorem dX9_does_175 : decode cX9_does 175 = .ok (.invokevirtual 156, 3) := by decide +kernel
theorem dX9_does_178 : decode cX9_does 178 = .ok (.ireturn, 1) := by decide +kernel
theorem dX9_does_179 : decode cX9_does 179 = .ok (.aload_n 0, 1) := by decide +kernel
theorem dX9_does_180 : decode cX9_does 180 = .ok (.invokevirtual 159, 3) := by decide +kernel
theorem dX9_does_183 : decode cX9_does 183 = .ok (.ireturn, 1) := by decide +kernel
theorem dX9_does_184 : decode cX9_does 184 = .ok (.aload_n 0, 1) := by decide +kernel
theorem dX9_does_185 : decode cX9_does 185 = .ok (.iload_n 2, 1) := by decide +kernel
theorem dX9_does_186 : decode cX9_does 186 = .ok (.iload_n 3, 1) := by decide +kernel
theorem dX9_does_187 : decode cX9_does 187 = .ok (.aload_n 0, 1) := by decide +kernel
theorem dX9_does_188 : decode cX9_does 188 = .ok (.getfield 28, 3) := by decide +kernel
theorem dX9_does_191 : decode cX9_does 191 = .ok (.iconst 5, 1) := by decide +kernel
theorem dX9_does_192 : decode cX9_does 192 = .ok (.iload_n 1, 1) := by decide +kernel
theorem dX9_does_193 : decode cX9_does 193 = .ok (.imul, 1) := by decide +kernel
theorem dX9_does_194 : decode cX9_does 194 = .ok (.iconst 3, 1) := by decide +kernel
theorem dX9_does_195 : decode cX9_does 195 = .ok (.iadd, 1) := by decide +kernel
theorem dX9_does_196 : decode cX9_does 196 = .ok (.iaload, 1) := by decide +kernel
theorem dX9_does_197 : decode cX9_does 197 = .ok (.aload_n 0, 1) := by decide +kernel
theorem dX9_does_198 : decode cX9_does 198 = .ok (.getfield 28, 3) := by decide +kernel
theorem dX9_does_201 : decode cX9_does 201 = .ok (.iconst 5, 1) := by decide +kernel
theorem dX9_does_202 : decode cX9_does 202 = .ok (.iload_n 1, 1) := by decide +kernel
theorem dX9_does_203 : decode cX9_does 203 = .ok (.imul, 1) := by decide +kernel
theorem dX9_does_204 : decode cX9_does 204 = .ok (.iconst 4, 1) := by decide +kernel
theorem dX9_does_205 : decode cX9_does 205 = .ok (.iadd, 1) := by decide +kernel
theorem dX9_does_206 : decode cX9_does 206 = .ok (.iaload, 1) := by decide +kernel
theorem dX9_does_207 : decode cX9_does 207 = .ok (.invokevirtual 165, 3) := by decide +kernel
theorem dX9_does_210 : decode cX9_does 210 = .ok (.ireturn, 1) := by decide +kernel
theorem dX9_execute_0 : decode cX9_execute 0 = .ok (.aload_n 0, 1) := by decide +kernel
theorem dX9_execute_1 : decode cX9_execute 1 = .ok (.invokevirtual 124, 3) := by decide +kernel
theorem dX9_execute_4 : decode cX9_execute 4 = .ok (.aload_n 0, 1) := by decide +kernel
theorem dX9_execute_5 : decode cX9_execute 5 = .ok (.iconst 0, 1) := by decide +kernel
theorem dX9_execute_6 : decode cX9_execute 6 = .ok (.putfield 211, 3) := by decide +kernel
theorem dX9_execute_9 : decode cX9_execute 9 = .ok (.aload_n 0, 1) := by decide +kernel
theorem dX9_execute_10 : decode cX9_execute 10 = .ok (.aload_n 0, 1) := by decide +kernel
theorem dX9_execute_11 : decode cX9_execute 11 = .ok (.getfield 208, 3) := by decide +kernel
theorem dX9_execute_14 : decode cX9_execute 14 = .ok (.putfield 214, 3) := by decide +kernel
theorem dX9_execute_17 : decode cX9_execute 17 = .ok (.aload_n 0, 1) := by decide +kernel
theorem dX9_execute_18 : decode cX9_execute 18 = .ok (.iconst 0, 1) := by decide +kernel
theorem dX9_execute_19 : decode cX9_execute 19 = .ok (.putfield 208, 3) := by decide +kernel
theorem dX9_execute_22 : decode cX9_execute 22 = .ok (.aload_n 0, 1) := by decide +kernel
theorem dX9_execute_23 : decode cX9_execute 23 = .ok (.iconst 0, 1) := by decide +kernel
theorem dX9_execute_24 : decode cX9_execute 24 = .ok (.putfield 232, 3) := by decide +kernel
theorem dX9_execute_27 : decode cX9_execute 27 = .ok (.aload_n 0, 1) := by decide +kernel
theorem dX9_execute_28 : decode cX9_execute 28 = .ok (.iconst 0, 1) := by decide +kernel
theorem dX9_execute_29 : decode cX9_execute 29 = .ok (.putfield 221, 3) := by decide +kernel
theorem dX9_execute_32 : decode cX9_execute 32 = .ok (.aload_n 0, 1) := by decide +kernel
theorem dX9_execute_33 : decode cX9_execute 33 = .ok (.invokevirtual 277, 3) := by decide +kernel
theorem dX9_execute_36 : decode cX9_execute 36 = .ok (.aload_n 0, 1) := by decide +kernel
theorem dX9_execute_37 : decode cX9_execute 37 = .ok (.getfield 221, 3) := by decide +kernel
theorem dX9_execute_40 : decode cX9_execute 40 = .ok (.ifCond .ne 30, 3) := by decide +kernel
theorem dX9_execute_43 : decode cX9_execute 43 = .ok (.aload_n 0, 1) := by decide +kernel
theorem dX9_execute_44 : decode cX9_execute 44 = .ok (.iconst 0, 1) := by decide +kernel
theorem dX9_execute_45 : decode cX9_execute 45 = .ok (.invokevirtual 225, 3) := by decide +kernel
theorem dX9_execute_48 : decode cX9_execute 48 = .ok (.bipush 59, 2) := by decide +kernel
theorem dX9_execute_50 : decode cX9_execute 50 = .ok (.if_icmp .ne 20, 3) := by decide +kernel
theorem dX9_execute_53 : decode cX9_execute 53 = .ok (.aload_n 0, 1) := by decide +kernel
theorem dX9_execute_54 : decode cX9_execute 54 = .ok (.dup, 1) := by decide +kernel
theorem dX9_execute_55 : decode cX9_execute 55 = .ok (.getfield 211, 3) := by decide +kernel
theorem dX9_execute_58 : decode cX9_execute 58 = .ok (.iconst 1, 1) := by decide +kernel
theorem dX9_execute_59 : decode cX9_execute 59 = .ok (.iadd, 1) := by decide +kernel
theorem dX9_execute_60 : decode cX9_execute 60 = .ok (.putfield 211, 3) := by decide +kernel
theorem dX9_execute_63 : decode cX9_execute 63 = .ok (.aload_n 0, 1) := by decide +kernel
theorem dX9_execute_64 : decode cX9_execute 64 = .ok (.invokevirtual 277, 3) := by decide +kernel
theorem dX9_execute_67 : decode cX9_execute 67 = .ok (.goto (-31), 3) := by decide +kernel
theorem dX9_execute_70 : decode cX9_execute 70 = .ok (.aload_n 0, 1) := by decide +kernel
theorem dX9_execute_71 : decode cX9_execute 71 = .ok (.getfield 221, 3) := by decide +kernel
theorem dX9_execute_74 : decode cX9_execute 74 = .ok (.ifCond .ne 14, 3) := by decide +kernel
theorem dX9_execute_77 : decode cX9_execute 77 = .ok (.aload_n 0, 1) := by decide +kernel
theorem dX9_execute_78 : decode cX9_execute 78 = .ok (.getfield 211, 3) := by decide +kernel
theorem dX9_execute_81 : decode cX9_execute 81 = .ok (.aload_n 0, 1) := by decide +kernel
theorem dX9_execute_82 : decode cX9_execute 82 = .ok (.getfield 214, 3) := by decide +kernel
theorem dX9_execute_85 : decode cX9_execute 85 = .ok (.if_icmp .ge 17, 3) := by decide +kernel
theorem dX9_execute_88 : decode cX9_execute 88 = .ok (.aload_n 0, 1) := by decide +kernel
theorem dX9_execute_89 : decode cX9_execute 89 = .ok (.aload_n 0, 1) := by decide +kernel
theorem dX9_execute_90 : decode cX9_execute 90 = .ok (.getfield 211, 3) := by decide +kernel
theorem dX9_execute_93 : decode cX9_execute 93 = .ok (.putfield 34, 3) := by decide +kernel
theorem dX9_execute_96 : decode cX9_execute 96 = .ok (.aload_n 0, 1) := by decide +kernel
theorem dX9_execute_97 : decode cX9_execute 97 = .ok (.iconst 1, 1) := by decide +kernel
theorem dX9_execute_98 : decode cX9_execute 98 = .ok (.invokevirtual 54, 3) := by decide +kernel
theorem dX9_execute_101 : decode cX9_execute 101 = .ok (.ireturn, 1) := by decide +kernel
theorem dX9_execute_102 : decode cX9_execute 102 = .ok (.iconst 0, 1) := by decide +kernel
theorem dX9_execute_103 : decode cX9_execute 103 = .ok (.istore_n 1, 1) := by decide +kernel
theorem dX9_execute_104 : decode cX9_execute 104 = .ok (.iload_n 1, 1) := by decide +kernel
theorem dX9_execute_105 : decode cX9_execute 105 = .ok (.aload_n 0, 1) := by decide +kernel
theorem dX9_execute_106 : decode cX9_execute 106 = .ok (.getfield 232, 3) := by decide +kernel
theorem dX9_execute_109 : decode cX9_execute 109 = .ok (.if_icmp .ge 58, 3) := by decide +kernel
theorem dX9_execute_112 : decode cX9_execute 112 = .ok (.aload_n 0, 1) := by decide +kernel
theorem dX9_execute_113 : decode cX9_execute 113 = .ok (.iload_n 1, 1) := by decide +kernel
theorem dX9_execute_114 : decode cX9_execute 114 = .ok (.invokevirtual 280, 3) := by decide +kernel
theorem dX9_execute_117 : decode cX9_execute 117 = .ok (.ifCond .ne 6, 3) := by decide +kernel
theorem dX9_execute_120 : decode cX9_execute 120 = .ok (.goto 41, 3) := by decide +kernel
theorem dX9_execute_123 : decode cX9_execute 123 = .ok (.iconst 0, 1) := by decide +kernel
theorem dX9_execute_124 : decode cX9_execute 124 = .ok (.istore_n 2, 1) := by decide +kernel
theorem dX9_execute_125 : decode cX9_execute 125 = .ok (.iload_n 2, 1) := by decide +kernel
theorem dX9_execute_126 : decode cX9_execute 126 = .ok (.sipush 165, 3) := by decide +kernel
theorem dX9_execute_129 : decode cX9_execute 129 = .ok (.if_icmp .ge 21, 3) := by decide +kernel
theorem dX9_execute_132 : decode cX9_execute 132 = .ok (.aload_n 0, 1) := by decide +kernel
theorem dX9_execute_133 : decode cX9_execute 133 = .ok (.getfield 7, 3) := by decide +kernel
theorem dX9_execute_136 : decode cX9_execute 136 = .ok (.iload_n 2, 1) := by decide +kernel
theorem dX9_execute_137 : decode cX9_execute 137 = .ok (.aload_n 0, 1) := by decide +kernel
theorem dX9_execute_138 : decode cX9_execute 138 = .ok (.getfield 13, 3) := by decide +kernel
theorem dX9_execute_141 : decode cX9_execute 141 = .ok (.iload_n 2, 1) := by decide +kernel
theorem dX9_execute_142 : decode cX9_execute 142 = .ok (.iaload, 1) := by decide +kernel
theorem dX9_execute_143 : decode cX9_execute 143 = .ok (.iastore, 1) := by decide +kernel
theorem dX9_execute_144 : decode cX9_execute 144 = .ok (.iinc 2 1, 3) := by decide +kernel
theorem dX9_execute_147 : decode cX9_execute 147 = .ok (.goto (-22), 3) := by decide +kernel
theorem dX9_execute_150 : decode cX9_execute 150 = .ok (.aload_n 0, 1) := by decide +kernel
theorem dX9_execute_151 : decode cX9_execute 151 = .ok (.iload_n 1, 1) := by decide +kernel
theorem dX9_execute_152 : decode cX9_execute 152 = .ok (.putfield 38, 3) := by decide +kernel
theorem dX9_execute_155 : decode cX9_execute 155 = .ok (.aload_n 0, 1) := by decide +kernel
theorem dX9_execute_156 : decode cX9_execute 156 = .ok (.iconst 2, 1) := by decide +kernel
theorem dX9_execute_157 : decode cX9_execute 157 = .ok (.invokevirtual 54, 3) := by decide +kernel
theorem dX9_execute_160 : decode cX9_execute 160 = .ok (.ireturn, 1) := by decide +kernel
theorem dX9_execute_161 : decode cX9_execute 161 = .ok (.iinc 1 1, 3) := by decide +kernel
theorem dX9_execute_164 : decode cX9_execute 164 = .ok (.goto (-60), 3) := by decide +kernel
theorem dX9_execute_167 : decode cX9_execute 167 = .ok (.aload_n 0, 1) := by decide +kernel
theorem dX9_execute_168 : decode cX9_execute 168 = .ok (.aload_n 0, 1) := by decide +kernel
theorem dX9_execute_169 : decode cX9_execute 169 = .ok (.getfield 232, 3) := by decide +kernel
theorem dX9_execute_172 : decode cX9_execute 172 = .ok (.invokevirtual 50, 3) := by decide +kernel
theorem dX9_execute_175 : decode cX9_execute 175 = .ok (.ireturn, 1) := by decide +kernel
theorem dX9_errorPosition_0 : decode cX9_errorPosition 0 = .ok (.aload_n 0, 1) := by decide +kernel
theorem dX9_errorPosition_1 : decode cX9_errorPosition 1 = .ok (.iconst 0, 1) := by decide +kernel
theorem dX9_errorPosition_2 : decode cX9_errorPosition 2 = .ok (.putfield 41, 3) := by decide +kernel
theorem dX9_errorPosition_5 : decode cX9_errorPosition 5 = .ok (.aload_n 0, 1) := by decide +kernel
theorem dX9_errorPosition_6 : decode cX9_errorPosition 6 = .ok (.getfield 34, 3) := by decide +kernel
theorem dX9_errorPosition_9 : decode cX9_errorPosition 9 = .ok (.iconst (-1), 1) := by decide +kernel
theorem dX9_errorPosition_10 : decode cX9_errorPosition 10 = .ok (.if_icmp .ne 11, 3) := by decide +kernel
theorem dX9_errorPosition_13 : decode cX9_errorPosition 13 = .ok (.aload_n 0, 1) := by decide +kernel
theorem dX9_errorPosition_14 : decode cX9_errorPosition 14 = .ok (.iconst 1, 1) := by decide +kernel
theorem dX9_errorPosition_15 : decode cX9_errorPosition 15 = .ok (.invokevirtual 54, 3) := by decide +kernel
theorem dX9_errorPosition_18 : decode cX9_errorPosition 18 = .ok (.goto 7, 3) := by decide +kernel
theorem dX9_errorPosition_21 : decode cX9_errorPosition 21 = .ok (.aload_n 0, 1) := by decide +kernel
theorem dX9_errorPosition_22 : decode cX9_errorPosition 22 = .ok (.getfield 34, 3) := by decide +kernel
theorem dX9_errorPosition_25 : decode cX9_errorPosition 25 = .ok (.ireturn, 1) := by decide +kernel
theorem dX9_failedCommand_0 : decode cX9_failedCommand 0 = .ok (.aload_n 0, 1) := by decide +kernel
theorem dX9_failedCommand_1 : decode cX9_failedCommand 1 = .ok (.iconst 0, 1) := by decide +kernel
theorem dX9_failedCommand_2 : decode cX9_failedCommand 2 = .ok (.putfield 41, 3) := by decide +kernel
theorem dX9_failedCommand_5 : decode cX9_failedCommand 5 = .ok (.aload_n 0, 1) := by decide +kernel
theorem dX9_failedCommand_6 : decode cX9_failedCommand 6 = .ok (.getfield 38, 3) := by decide +kernel
theorem dX9_failedCommand_9 : decode cX9_failedCommand 9 = .ok (.iconst (-1), 1) := by decide +kernel
theorem dX9_failedCommand_10 : decode cX9_failedCommand 10 = .ok (.if_icmp .ne 11, 3) := by decide +kernel
theorem dX9_failedCommand_13 : decode cX9_failedCommand 13 = .ok (.aload_n 0, 1) := by decide +kernel
theorem dX9_failedCommand_14 : decode cX9_failedCommand 14 = .ok (.iconst 1, 1) := by decide +kernel
theorem dX9_failedCommand_15 : decode cX9_failedCommand 15 = .ok (.invokevirtual 54, 3) := by decide +kernel
theorem dX9_failedCommand_18 : decode cX9_failedCommand 18 = .ok (.goto 7, 3) := by decide +kernel
theorem dX9_failedCommand_21 : decode cX9_failedCommand 21 = .ok (.aload_n 0, 1) := by decide +kernel
theorem dX9_failedCommand_22 : decode cX9_failedCommand 22 = .ok (.getfield 38, 3) := by decide +kernel
theorem dX9_failedCommand_25 : decode cX9_failedCommand 25 = .ok (.ireturn, 1) := by decide +kernel
theorem dX9_undo_0 : decode cX9_undo 0 = .ok (.aload_n 0, 1) := by decide +kernel
theorem dX9_undo_1 : decode cX9_undo 1 = .ok (.iconst 0, 1) := by decide +kernel
theorem dX9_undo_2 : decode cX9_undo 2 = .ok (.putfield 41, 3) := by decide +kernel
theorem dX9_undo_5 : decode cX9_undo 5 = .ok (.aload_n 0, 1) := by decide +kernel
theorem dX9_undo_6 : decode cX9_undo 6 = .ok (.getfield 44, 3) := by decide +kernel
theorem dX9_undo_9 : decode cX9_undo 9 = .ok (.ifCond .ne 9, 3) := by decide +kernel
theorem dX9_undo_12 : decode cX9_undo 12 = .ok (.aload_n 0, 1) := by decide +kernel
theorem dX9_undo_13 : decode cX9_undo 13 = .ok (.iconst 1, 1) := by decide +kernel
theorem dX9_undo_14 : decode cX9_undo 14 = .ok (.invokevirtual 54, 3) := by decide +kernel
theorem dX9_undo_17 : decode cX9_undo 17 = .ok (.ireturn, 1) := by decide +kernel
theorem dX9_undo_18 : decode cX9_undo 18 = .ok (.aload_n 0, 1) := by decide +kernel
theorem dX9_undo_19 : decode cX9_undo 19 = .ok (.dup, 1) := by decide +kernel
theorem dX9_undo_20 : decode cX9_undo 20 = .ok (.getfield 44, 3) := by decide +kernel
theorem dX9_undo_23 : decode cX9_undo 23 = .ok (.iconst 1, 1) := by decide +kernel
theorem dX9_undo_24 : decode cX9_undo 24 = .ok (.isub, 1) := by decide +kernel
theorem dX9_undo_25 : decode cX9_undo 25 = .ok (.putfield 44, 3) := by decide +kernel
theorem dX9_undo_28 : decode cX9_undo 28 = .ok (.iconst 0, 1) := by decide +kernel
theorem dX9_undo_29 : decode cX9_undo 29 = .ok (.istore_n 1, 1) := by decide +kernel
theorem dX9_undo_30 : decode cX9_undo 30 = .ok (.iload_n 1, 1) := by decide +kernel
theorem dX9_undo_31 : decode cX9_undo 31 = .ok (.sipush 165, 3) := by decide +kernel
theorem dX9_undo_34 : decode cX9_undo 34 = .ok (.if_icmp .ge 30, 3) := by decide +kernel
theorem dX9_undo_37 : decode cX9_undo 37 = .ok (.aload_n 0, 1) := by decide +kernel
theorem dX9_undo_38 : decode cX9_undo 38 = .ok (.getfield 7, 3) := by decide +kernel
theorem dX9_undo_41 : decode cX9_undo 41 = .ok (.iload_n 1, 1) := by decide +kernel
theorem dX9_undo_42 : decode cX9_undo 42 = .ok (.aload_n 0, 1) := by decide +kernel
theorem dX9_undo_43 : decode cX9_undo 43 = .ok (.getfield 19, 3) := by decide +kernel
theorem dX9_undo_46 : decode cX9_undo 46 = .ok (.sipush 165, 3) := by decide +kernel
theorem dX9_undo_49 : decode cX9_undo 49 = .ok (.aload_n 0, 1) := by decide +kernel
theorem dX9_undo_50 : decode cX9_undo 50 = .ok (.getfield 44, 3) := by decide +kernel
theorem dX9_undo_53 : decode cX9_undo 53 = .ok (.imul, 1) := by decide +kernel
theorem dX9_undo_54 : decode cX9_undo 54 = .ok (.iload_n 1, 1) := by decide +kernel
theorem dX9_undo_55 : decode cX9_undo 55 = .ok (.iadd, 1) := by decide +kernel
theorem dX9_undo_56 : decode cX9_undo 56 = .ok (.iaload, 1) := by decide +kernel
theorem dX9_undo_57 : decode cX9_undo 57 = .ok (.iastore, 1) := by decide +kernel
theorem dX9_undo_58 : decode cX9_undo 58 = .ok (.iinc 1 1, 3) := by decide +kernel
theorem dX9_undo_61 : decode cX9_undo 61 = .ok (.goto (-31), 3) := by decide +kernel
theorem dX9_undo_64 : decode cX9_undo 64 = .ok (.aload_n 0, 1) := by decide +kernel
theorem dX9_undo_65 : decode cX9_undo 65 = .ok (.getfield 44, 3) := by decide +kernel
theorem dX9_undo_68 : decode cX9_undo 68 = .ok (.ireturn, 1) := by decide +kernel
theorem dX9_undoCount_0 : decode cX9_undoCount 0 = .ok (.aload_n 0, 1) := by decide +kernel
theorem dX9_undoCount_1 : decode cX9_undoCount 1 = .ok (.iconst 0, 1) := by decide +kernel
theorem dX9_undoCount_2 : decode cX9_undoCount 2 = .ok (.putfield 41, 3) := by decide +kernel
theorem dX9_undoCount_5 : decode cX9_undoCount 5 = .ok (.aload_n 0, 1) := by decide +kernel
theorem dX9_undoCount_6 : decode cX9_undoCount 6 = .ok (.getfield 44, 3) := by decide +kernel
theorem dX9_undoCount_9 : decode cX9_undoCount 9 = .ok (.ireturn, 1) := by decide +kernel
theorem dX9_save_0 : decode cX9_save 0 = .ok (.aload_n 0, 1) := by decide +kernel
theorem dX9_save_1 : decode cX9_save 1 = .ok (.iconst 0, 1) := by decide +kernel
theorem dX9_save_2 : decode cX9_save 2 = .ok (.putfield 41, 3) := by decide +kernel
theorem dX9_save_5 : decode cX9_save 5 = .ok (.iconst 0, 1) := by decide +kernel
theorem dX9_save_6 : decode cX9_save 6 = .ok (.istore_n 1, 1) := by decide +kernel
theorem dX9_save_7 : decode cX9_save 7 = .ok (.iload_n 1, 1) := by decide +kernel
theorem dX9_save_8 : decode cX9_save 8 = .ok (.sipush 165, 3) := by decide +kernel
theorem dX9_save_11 : decode cX9_save 11 = .ok (.if_icmp .ge 21, 3) := by decide +kernel
theorem dX9_save_14 : decode cX9_save 14 = .ok (.aload_n 0, 1) := by decide +kernel
theorem dX9_save_15 : decode cX9_save 15 = .ok (.getfield 16, 3) := by decide +kernel
theorem dX9_save_18 : decode cX9_save 18 = .ok (.iload_n 1, 1) := by decide +kernel
theorem dX9_save_19 : decode cX9_save 19 = .ok (.aload_n 0, 1) := by decide +kernel
theorem dX9_save_20 : decode cX9_save 20 = .ok (.getfield 7, 3) := by decide +kernel
theorem dX9_save_23 : decode cX9_save 23 = .ok (.iload_n 1, 1) := by decide +kernel
theorem dX9_save_24 : decode cX9_save 24 = .ok (.iaload, 1) := by decide +kernel
theorem dX9_save_25 : decode cX9_save 25 = .ok (.iastore, 1) := by decide +kernel
theorem dX9_save_26 : decode cX9_save 26 = .ok (.iinc 1 1, 3) := by decide +kernel
theorem dX9_save_29 : decode cX9_save 29 = .ok (.goto (-22), 3) := by decide +kernel
theorem dX9_save_32 : decode cX9_save 32 = .ok (.aload_n 0, 1) := by decide +kernel
theorem dX9_save_33 : decode cX9_save 33 = .ok (.iconst 1, 1) := by decide +kernel
theorem dX9_save_34 : decode cX9_save 34 = .ok (.putfield 283, 3) := by decide +kernel
theorem dX9_save_37 : decode cX9_save 37 = .ok (.aload_n 0, 1) := by decide +kernel
theorem dX9_save_38 : decode cX9_save 38 = .ok (.getfield 7, 3) := by decide +kernel
theorem dX9_save_41 : decode cX9_save 41 = .ok (.iconst 0, 1) := by decide +kernel
theorem dX9_save_42 : decode cX9_save 42 = .ok (.iaload, 1) := by decide +kernel
theorem dX9_save_43 : decode cX9_save 43 = .ok (.ireturn, 1) := by decide +kernel
theorem dX9_restore_0 : decode cX9_restore 0 = .ok (.aload_n 0, 1) := by decide +kernel
theorem dX9_restore_1 : decode cX9_restore 1 = .ok (.iconst 0, 1) := by decide +kernel
theorem dX9_restore_2 : decode cX9_restore 2 = .ok (.putfield 41, 3) := by decide +kernel
theorem dX9_restore_5 : decode cX9_restore 5 = .ok (.aload_n 0, 1) := by decide +kernel
theorem dX9_restore_6 : decode cX9_restore 6 = .ok (.getfield 283, 3) := by decide +kernel
theorem dX9_restore_9 : decode cX9_restore 9 = .ok (.ifCond .ne 9, 3) := by decide +kernel
theorem dX9_restore_12 : decode cX9_restore 12 = .ok (.aload_n 0, 1) := by decide +kernel
theorem dX9_restore_13 : decode cX9_restore 13 = .ok (.iconst 1, 1) := by decide +kernel
theorem dX9_restore_14 : decode cX9_restore 14 = .ok (.invokevirtual 54, 3) := by decide +kernel
theorem dX9_restore_17 : decode cX9_restore 17 = .ok (.ireturn, 1) := by decide +kernel
theorem dX9_restore_18 : decode cX9_restore 18 = .ok (.iconst 0, 1) := by decide +kernel
theorem dX9_restore_19 : decode cX9_restore 19 = .ok (.istore_n 1, 1) := by decide +kernel
theorem dX9_restore_20 : decode cX9_restore 20 = .ok (.iload_n 1, 1) := by decide +kernel
theorem dX9_restore_21 : decode cX9_restore 21 = .ok (.sipush 165, 3) := by decide +kernel
theorem dX9_restore_24 : decode cX9_restore 24 = .ok (.if_icmp .ge 21, 3) := by decide +kernel
theorem dX9_restore_27 : decode cX9_restore 27 = .ok (.aload_n 0, 1) := by decide +kernel
theorem dX9_restore_28 : decode cX9_restore 28 = .ok (.getfield 7, 3) := by decide +kernel
theorem dX9_restore_31 : decode cX9_restore 31 = .ok (.iload_n 1, 1) := by decide +kernel
theorem dX9_restore_32 : decode cX9_restore 32 = .ok (.aload_n 0, 1) := by decide +kernel
theorem dX9_restore_33 : decode cX9_restore 33 = .ok (.getfield 16, 3) := by decide +kernel
theorem dX9_restore_36 : decode cX9_restore 36 = .ok (.iload_n 1, 1) := by decide +kernel
theorem dX9_restore_37 : decode cX9_restore 37 = .ok (.iaload, 1) := by decide +kernel
theorem dX9_restore_38 : decode cX9_restore 38 = .ok (.iastore, 1) := by decide +kernel
theorem dX9_restore_39 : decode cX9_restore 39 = .ok (.iinc 1 1, 3) := by decide +kernel
theorem dX9_restore_42 : decode cX9_restore 42 = .ok (.goto (-22), 3) := by decide +kernel
theorem dX9_restore_45 : decode cX9_restore 45 = .ok (.aload_n 0, 1) := by decide +kernel
theorem dX9_restore_46 : decode cX9_restore 46 = .ok (.iconst 0, 1) := by decide +kernel
theorem dX9_restore_47 : decode cX9_restore 47 = .ok (.putfield 44, 3) := by decide +kernel
theorem dX9_restore_50 : decode cX9_restore 50 = .ok (.aload_n 0, 1) := by decide +kernel
theorem dX9_restore_51 : decode cX9_restore 51 = .ok (.getfield 7, 3) := by decide +kernel
theorem dX9_restore_54 : decode cX9_restore 54 = .ok (.iconst 0, 1) := by decide +kernel
theorem dX9_restore_55 : decode cX9_restore 55 = .ok (.iaload, 1) := by decide +kernel
theorem dX9_restore_56 : decode cX9_restore 56 = .ok (.ireturn, 1) := by decide +kernel
