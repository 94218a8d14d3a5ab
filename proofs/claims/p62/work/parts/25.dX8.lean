theorem dX8_init_0 : decode cX8_init 0 = .ok (.aload_n 0, 1) := by decide +kernel
theorem dX8_init_1 : decode cX8_init 1 = .ok (.invokespecial 1, 3) := by decide +kernel
theorem dX8_init_4 : decode cX8_init 4 = .ok (.aload_n 0, 1) := by decide +kernel
theorem dX8_init_5 : decode cX8_init 5 = .ok (.new 7, 3) := by decide +kernel
theorem dX8_init_8 : decode cX8_init 8 = .ok (.dup, 1) := by decide +kernel
theorem dX8_init_9 : decode cX8_init 9 = .ok (.invokespecial 9, 3) := by decide +kernel
theorem dX8_init_12 : decode cX8_init 12 = .ok (.putfield 10, 3) := by decide +kernel
theorem dX8_init_15 : decode cX8_init 15 = .ok (.aload_n 0, 1) := by decide +kernel
theorem dX8_init_16 : decode cX8_init 16 = .ok (.new 7, 3) := by decide +kernel
theorem dX8_init_19 : decode cX8_init 19 = .ok (.dup, 1) := by decide +kernel
theorem dX8_init_20 : decode cX8_init 20 = .ok (.invokespecial 9, 3) := by decide +kernel
theorem dX8_init_23 : decode cX8_init 23 = .ok (.putfield 16, 3) := by decide +kernel
theorem dX8_init_26 : decode cX8_init 26 = .ok (.aload_n 0, 1) := by decide +kernel
theorem dX8_init_27 : decode cX8_init 27 = .ok (.new 7, 3) := by decide +kernel
theorem dX8_init_30 : decode cX8_init 30 = .ok (.dup, 1) := by decide +kernel
theorem dX8_init_31 : decode cX8_init 31 = .ok (.invokespecial 9, 3) := by decide +kernel
theorem dX8_init_34 : decode cX8_init 34 = .ok (.putfield 19, 3) := by decide +kernel
theorem dX8_init_37 : decode cX8_init 37 = .ok (.aload_n 0, 1) := by decide +kernel
theorem dX8_init_38 : decode cX8_init 38 = .ok (.iconst 0, 1) := by decide +kernel
theorem dX8_init_39 : decode cX8_init 39 = .ok (.putfield 22, 3) := by decide +kernel
theorem dX8_init_42 : decode cX8_init 42 = .ok (.aload_n 0, 1) := by decide +kernel
theorem dX8_init_43 : decode cX8_init 43 = .ok (.bipush 8, 2) := by decide +kernel
theorem dX8_init_45 : decode cX8_init 45 = .ok (.anewarray 7, 3) := by decide +kernel
theorem dX8_init_48 : decode cX8_init 48 = .ok (.putfield 26, 3) := by decide +kernel
theorem dX8_init_51 : decode cX8_init 51 = .ok (.aload_n 0, 1) := by decide +kernel
theorem dX8_init_52 : decode cX8_init 52 = .ok (.iconst 0, 1) := by decide +kernel
theorem dX8_init_53 : decode cX8_init 53 = .ok (.putfield 30, 3) := by decide +kernel
theorem dX8_init_56 : decode cX8_init 56 = .ok (.aload_n 0, 1) := by decide +kernel
theorem dX8_init_57 : decode cX8_init 57 = .ok (.iconst 0, 1) := by decide +kernel
theorem dX8_init_58 : decode cX8_init 58 = .ok (.putfield 34, 3) := by decide +kernel
theorem dX8_init_61 : decode cX8_init 61 = .ok (.aload_n 0, 1) := by decide +kernel
theorem dX8_init_62 : decode cX8_init 62 = .ok (.new 37, 3) := by decide +kernel
theorem dX8_init_65 : decode cX8_init 65 = .ok (.dup, 1) := by decide +kernel
theorem dX8_init_66 : decode cX8_init 66 = .ok (.invokespecial 39, 3) := by decide +kernel
theorem dX8_init_69 : decode cX8_init 69 = .ok (.putfield 40, 3) := by decide +kernel
theorem dX8_init_72 : decode cX8_init 72 = .ok (.aload_n 0, 1) := by decide +kernel
theorem dX8_init_73 : decode cX8_init 73 = .ok (.new 44, 3) := by decide +kernel
theorem dX8_init_76 : decode cX8_init 76 = .ok (.dup, 1) := by decide +kernel
theorem dX8_init_77 : decode cX8_init 77 = .ok (.invokespecial 46, 3) := by decide +kernel
theorem dX8_init_80 : decode cX8_init 80 = .ok (.putfield 47, 3) := by decide +kernel
theorem dX8_init_83 : decode cX8_init 83 = .ok (.aload_n 0, 1) := by decide +kernel
theorem dX8_init_84 : decode cX8_init 84 = .ok (.new 51, 3) := by decide +kernel
theorem dX8_init_87 : decode cX8_init 87 = .ok (.dup, 1) := by decide +kernel
theorem dX8_init_88 : decode cX8_init 88 = .ok (.invokespecial 53, 3) := by decide +kernel
theorem dX8_init_91 : decode cX8_init 91 = .ok (.putfield 54, 3) := by decide +kernel
theorem dX8_init_94 : decode cX8_init 94 = .ok (.aload_n 0, 1) := by decide +kernel
theorem dX8_init_95 : decode cX8_init 95 = .ok (.iconst (-1), 1) := by decide +kernel
theorem dX8_init_96 : decode cX8_init 96 = .ok (.putfield 58, 3) := by decide +kernel
theorem dX8_init_99 : decode cX8_init 99 = .ok (.aload_n 0, 1) := by decide +kernel
theorem dX8_init_100 : decode cX8_init 100 = .ok (.iconst (-1), 1) := by decide +kernel
theorem dX8_init_101 : decode cX8_init 101 = .ok (.putfield 61, 3) := by decide +kernel
theorem dX8_init_104 : decode cX8_init 104 = .ok (.iconst 0, 1) := by decide +kernel
theorem dX8_init_105 : decode cX8_init 105 = .ok (.istore_n 1, 1) := by decide +kernel
theorem dX8_init_106 : decode cX8_init 106 = .ok (.iload_n 1, 1) := by decide +kernel
theorem dX8_init_107 : decode cX8_init 107 = .ok (.bipush 8, 2) := by decide +kernel
theorem dX8_init_109 : decode cX8_init 109 = .ok (.if_icmp .ge 22, 3) := by decide +kernel
theorem dX8_init_112 : decode cX8_init 112 = .ok (.aload_n 0, 1) := by decide +kernel
theorem dX8_init_113 : decode cX8_init 113 = .ok (.getfield 26, 3) := by decide +kernel
theorem dX8_init_116 : decode cX8_init 116 = .ok (.iload_n 1, 1) := by decide +kernel
theorem dX8_init_117 : decode cX8_init 117 = .ok (.new 7, 3) := by decide +kernel
theorem dX8_init_120 : decode cX8_init 120 = .ok (.dup, 1) := by decide +kernel
theorem dX8_init_121 : decode cX8_init 121 = .ok (.invokespecial 9, 3) := by decide +kernel
theorem dX8_init_124 : decode cX8_init 124 = .ok (.aastore, 1) := by decide +kernel
theorem dX8_init_125 : decode cX8_init 125 = .ok (.iinc 1 1, 3) := by decide +kernel
theorem dX8_init_128 : decode cX8_init 128 = .ok (.goto (-22), 3) := by decide +kernel
theorem dX8_init_131 : decode cX8_init 131 = .ok (.return_, 1) := by decide +kernel
theorem dX8_addJet_0 : decode cX8_addJet 0 = .ok (.aload_n 0, 1) := by decide +kernel
theorem dX8_addJet_1 : decode cX8_addJet 1 = .ok (.getfield 10, 3) := by decide +kernel
theorem dX8_addJet_4 : decode cX8_addJet 4 = .ok (.getfield 64, 3) := by decide +kernel
theorem dX8_addJet_7 : decode cX8_addJet 7 = .ok (.iload_n 1, 1) := by decide +kernel
theorem dX8_addJet_8 : decode cX8_addJet 8 = .ok (.invokevirtual 68, 3) := by decide +kernel
theorem dX8_addJet_11 : decode cX8_addJet 11 = .ok (.invokestatic 74, 3) := by decide +kernel
theorem dX8_addJet_14 : decode cX8_addJet 14 = .ok (.aload_n 0, 1) := by decide +kernel
theorem dX8_addJet_15 : decode cX8_addJet 15 = .ok (.invokevirtual 78, 3) := by decide +kernel
theorem dX8_addJet_18 : decode cX8_addJet 18 = .ok (.aload_n 0, 1) := by decide +kernel
theorem dX8_addJet_19 : decode cX8_addJet 19 = .ok (.getfield 10, 3) := by decide +kernel
theorem dX8_addJet_22 : decode cX8_addJet 22 = .ok (.getfield 64, 3) := by decide +kernel
theorem dX8_addJet_25 : decode cX8_addJet 25 = .ok (.iload_n 1, 1) := by decide +kernel
theorem dX8_addJet_26 : decode cX8_addJet 26 = .ok (.invokevirtual 81, 3) := by decide +kernel
theorem dX8_addJet_29 : decode cX8_addJet 29 = .ok (.ireturn, 1) := by decide +kernel
theorem dX8_removeJet_0 : decode cX8_removeJet 0 = .ok (.aload_n 0, 1) := by decide +kernel
theorem dX8_removeJet_1 : decode cX8_removeJet 1 = .ok (.iload_n 1, 1) := by decide +kernel
theorem dX8_removeJet_2 : decode cX8_removeJet 2 = .ok (.invokevirtual 85, 3) := by decide +kernel
theorem dX8_removeJet_5 : decode cX8_removeJet 5 = .ok (.aload_n 0, 1) := by decide +kernel
theorem dX8_removeJet_6 : decode cX8_removeJet 6 = .ok (.invokevirtual 78, 3) := by decide +kernel
theorem dX8_removeJet_9 : decode cX8_removeJet 9 = .ok (.aload_n 0, 1) := by decide +kernel
theorem dX8_removeJet_10 : decode cX8_removeJet 10 = .ok (.getfield 10, 3) := by decide +kernel
theorem dX8_removeJet_13 : decode cX8_removeJet 13 = .ok (.iload_n 1, 1) := by decide +kernel
theorem dX8_removeJet_14 : decode cX8_removeJet 14 = .ok (.invokevirtual 89, 3) := by decide +kernel
theorem dX8_removeJet_17 : decode cX8_removeJet 17 = .ok (.ireturn, 1) := by decide +kernel
theorem dX8_setOpening_0 : decode cX8_setOpening 0 = .ok (.aload_n 0, 1) := by decide +kernel
theorem dX8_setOpening_1 : decode cX8_setOpening 1 = .ok (.getfield 10, 3) := by decide +kernel
theorem dX8_setOpening_4 : decode cX8_setOpening 4 = .ok (.getfield 64, 3) := by decide +kernel
theorem dX8_setOpening_7 : decode cX8_setOpening 7 = .ok (.iload_n 1, 1) := by decide +kernel
theorem dX8_setOpening_8 : decode cX8_setOpening 8 = .ok (.iload_n 2, 1) := by decide +kernel
theorem dX8_setOpening_9 : decode cX8_setOpening 9 = .ok (.invokevirtual 92, 3) := by decide +kernel
theorem dX8_setOpening_12 : decode cX8_setOpening 12 = .ok (.invokestatic 74, 3) := by decide +kernel
theorem dX8_setOpening_15 : decode cX8_setOpening 15 = .ok (.aload_n 0, 1) := by decide +kernel
theorem dX8_setOpening_16 : decode cX8_setOpening 16 = .ok (.invokevirtual 78, 3) := by decide +kernel
theorem dX8_setOpening_19 : decode cX8_setOpening 19 = .ok (.aload_n 0, 1) := by decide +kernel
theorem dX8_setOpening_20 : decode cX8_setOpening 20 = .ok (.getfield 10, 3) := by decide +kernel
theorem dX8_setOpening_23 : decode cX8_setOpening 23 = .ok (.getfield 64, 3) := by decide +kernel
theorem dX8_setOpening_26 : decode cX8_setOpening 26 = .ok (.iload_n 1, 1) := by decide +kernel
theorem dX8_setOpening_27 : decode cX8_setOpening 27 = .ok (.iload_n 2, 1) := by decide +kernel
theorem dX8_setOpening_28 : decode cX8_setOpening 28 = .ok (.invokevirtual 96, 3) := by decide +kernel
theorem dX8_setOpening_31 : decode cX8_setOpening 31 = .ok (.ireturn, 1) := by decide +kernel
theorem dX8_jetCount_0 : decode cX8_jetCount 0 = .ok (.aload_n 0, 1) := by decide +kernel
theorem dX8_jetCount_1 : decode cX8_jetCount 1 = .ok (.getfield 10, 3) := by decide +kernel
theorem dX8_jetCount_4 : decode cX8_jetCount 4 = .ok (.getfield 64, 3) := by decide +kernel
theorem dX8_jetCount_7 : decode cX8_jetCount 7 = .ok (.getfield 100, 3) := by decide +kernel
theorem dX8_jetCount_10 : decode cX8_jetCount 10 = .ok (.ireturn, 1) := by decide +kernel
theorem dX8_position_0 : decode cX8_position 0 = .ok (.aload_n 0, 1) := by decide +kernel
theorem dX8_position_1 : decode cX8_position 1 = .ok (.iload_n 1, 1) := by decide +kernel
theorem dX8_position_2 : decode cX8_position 2 = .ok (.invokevirtual 85, 3) := by decide +kernel
theorem dX8_position_5 : decode cX8_position 5 = .ok (.aload_n 0, 1) := by decide +kernel
theorem dX8_position_6 : decode cX8_position 6 = .ok (.getfield 10, 3) := by decide +kernel
theorem dX8_position_9 : decode cX8_position 9 = .ok (.getfield 64, 3) := by decide +kernel
theorem dX8_position_12 : decode cX8_position 12 = .ok (.getfield 103, 3) := by decide +kernel
theorem dX8_position_15 : decode cX8_position 15 = .ok (.iload_n 1, 1) := by decide +kernel
theorem dX8_position_16 : decode cX8_position 16 = .ok (.iaload, 1) := by decide +kernel
theorem dX8_position_17 : decode cX8_position 17 = .ok (.ireturn, 1) := by decide +kernel
theorem dX8_opening_0 : decode cX8_opening 0 = .ok (.aload_n 0, 1) := by decide +kernel
theorem dX8_opening_1 : decode cX8_opening 1 = .ok (.iload_n 1, 1) := by decide +kernel
theorem dX8_opening_2 : decode cX8_opening 2 = .ok (.invokevirtual 85, 3) := by decide +kernel
theorem dX8_opening_5 : decode cX8_opening 5 = .ok (.aload_n 0, 1) := by decide +kernel
theorem dX8_opening_6 : decode cX8_opening 6 = .ok (.getfield 10, 3) := by decide +kernel
theorem dX8_opening_9 : decode cX8_opening 9 = .ok (.getfield 64, 3) := by decide +kernel
theorem dX8_opening_12 : decode cX8_opening 12 = .ok (.getfield 107, 3) := by decide +kernel
theorem dX8_opening_15 : decode cX8_opening 15 = .ok (.iload_n 1, 1) := by decide +kernel
theorem dX8_opening_16 : decode cX8_opening 16 = .ok (.iaload, 1) := by decide +kernel
theorem dX8_opening_17 : decode cX8_opening 17 = .ok (.ireturn, 1) := by decide +kernel
theorem dX8_height_0 : decode cX8_height 0 = .ok (.aload_n 0, 1) := by decide +kernel
theorem dX8_height_1 : decode cX8_height 1 = .ok (.iload_n 1, 1) := by decide +kernel
theorem dX8_height_2 : decode cX8_height 2 = .ok (.invokevirtual 85, 3) := by decide +kernel
theorem dX8_height_5 : decode cX8_height 5 = .ok (.aload_n 0, 1) := by decide +kernel
theorem dX8_height_6 : decode cX8_height 6 = .ok (.getfield 10, 3) := by decide +kernel
theorem dX8_height_9 : decode cX8_height 9 = .ok (.getfield 64, 3) := by decide +kernel
theorem dX8_height_12 : decode cX8_height 12 = .ok (.iload_n 1, 1) := by decide +kernel
theorem dX8_height_13 : decode cX8_height 13 = .ok (.aload_n 0, 1) := by decide +kernel
theorem dX8_height_14 : decode cX8_height 14 = .ok (.getfield 10, 3) := by decide +kernel
theorem dX8_height_17 : decode cX8_height 17 = .ok (.getfield 64, 3) := by decide +kernel
theorem dX8_height_20 : decode cX8_height 20 = .ok (.invokevirtual 110, 3) := by decide +kernel
theorem dX8_height_23 : decode cX8_height 23 = .ok (.invokevirtual 114, 3) := by decide +kernel
theorem dX8_height_26 : decode cX8_height 26 = .ok (.ireturn, 1) := by decide +kernel
theorem dX8_landing_0 : decode cX8_landing 0 = .ok (.aload_n 0, 1) := by decide +kernel
theorem dX8_landing_1 : decode cX8_landing 1 = .ok (.iload_n 1, 1) := by decide +kernel
theorem dX8_landing_2 : decode cX8_landing 2 = .ok (.invokevirtual 85, 3) := by decide +kernel
theorem dX8_landing_5 : decode cX8_landing 5 = .ok (.aload_n 0, 1) := by decide +kernel
theorem dX8_landing_6 : decode cX8_landing 6 = .ok (.getfield 10, 3) := by decide +kernel
theorem dX8_landing_9 : decode cX8_landing 9 = .ok (.getfield 64, 3) := by decide +kernel
theorem dX8_landing_12 : decode cX8_landing 12 = .ok (.iload_n 1, 1) := by decide +kernel
theorem dX8_landing_13 : decode cX8_landing 13 = .ok (.aload_n 0, 1) := by decide +kernel
theorem dX8_landing_14 : decode cX8_landing 14 = .ok (.getfield 10, 3) := by decide +kernel
theorem dX8_landing_17 : decode cX8_landing 17 = .ok (.getfield 64, 3) := by decide +kernel
theorem dX8_landing_20 : decode cX8_landing 20 = .ok (.invokevirtual 110, 3) := by decide +kernel
theorem dX8_landing_23 : decode cX8_landing 23 = .ok (.invokevirtual 117, 3) := by decide +kernel
theorem dX8_landing_26 : decode cX8_landing 26 = .ok (.ireturn, 1) := by decide +kernel
theorem dX8_isWild_0 : decode cX8_isWild 0 = .ok (.aload_n 0, 1) := by decide +kernel
theorem dX8_isWild_1 : decode cX8_isWild 1 = .ok (.iload_n 1, 1) := by decide +kernel
theorem dX8_isWild_2 : decode cX8_isWild 2 = .ok (.invokevirtual 85, 3) := by decide +kernel
theorem dX8_isWild_5 : decode cX8_isWild 5 = .ok (.aload_n 0, 1) := by decide +kernel
theorem dX8_isWild_6 : decode cX8_isWild 6 = .ok (.getfield 10, 3) := by decide +kernel
theorem dX8_isWild_9 : decode cX8_isWild 9 = .ok (.getfield 64, 3) := by decide +kernel
theorem dX8_isWild_12 : decode cX8_isWild 12 = .ok (.iload_n 1, 1) := by decide +kernel
theorem dX8_isWild_13 : decode cX8_isWild 13 = .ok (.aload_n 0, 1) := by decide +kernel
theorem dX8_isWild_14 : decode cX8_isWild 14 = .ok (.getfield 10, 3) := by decide +kernel
theorem dX8_isWild_17 : decode cX8_isWild 17 = .ok (.getfield 64, 3) := by decide +kernel
theorem dX8_isWild_20 : decode cX8_isWild 20 = .ok (.invokevirtual 110, 3) := by decide +kernel
theorem dX8_isWild_23 : decode cX8_isWild 23 = .ok (.invokevirtual 117, 3) := by decide +kernel
theorem dX8_isWild_26 : decode cX8_isWild 26 = .ok (.invokestatic 120, 3) := by decide +kernel
theorem dX8_isWild_29 : decode cX8_isWild 29 = .ok (.ireturn, 1) := by decide +kernel
theorem dX8_wildCount_0 : decode cX8_wildCount 0 = .ok (.aload_n 0, 1) := by decide +kernel
theorem dX8_wildCount_1 : decode cX8_wildCount 1 = .ok (.getfield 10, 3) := by decide +kernel
theorem dX8_wildCount_4 : decode cX8_wildCount 4 = .ok (.getfield 64, 3) := by decide +kernel
theorem dX8_wildCount_7 : decode cX8_wildCount 7 = .ok (.invokevirtual 124, 3) := by decide +kernel
theorem dX8_wildCount_10 : decode cX8_wildCount 10 = .ok (.ireturn, 1) := by decide +kernel
theorem dX8_highestJet_0 : decode cX8_highestJet 0 = .ok (.aload_n 0, 1) := by decide +kernel
theorem dX8_highestJet_1 : decode cX8_highestJet 1 = .ok (.invokevirtual 127, 3) := by decide +kernel
theorem dX8_highestJet_4 : decode cX8_highestJet 4 = .ok (.aload_n 0, 1) := by decide +kernel
theorem dX8_highestJet_5 : decode cX8_highestJet 5 = .ok (.getfield 10, 3) := by decide +kernel
theorem dX8_highestJet_8 : decode cX8_highestJet 8 = .ok (.getfield 64, 3) := by decide +kernel
theorem dX8_highestJet_11 : decode cX8_highestJet 11 = .ok (.invokevirtual 130, 3) := by decide +kernel
theorem dX8_highestJet_14 : decode cX8_highestJet 14 = .ok (.ireturn, 1) := by decide +kernel
theorem dX8_jetByPosition_0 : decode cX8_jetByPosition 0 = .ok (.aload_n 0, 1) := by decide +kernel
theorem dX8_jetByPosition_1 : decode cX8_jetByPosition 1 = .ok (.getfield 10, 3) := by decide +kernel
theorem dX8_jetByPosition_4 : decode cX8_jetByPosition 4 = .ok (.getfield 64, 3) := by decide +kernel
theorem dX8_jetByPosition_7 : decode cX8_jetByPosition 7 = .ok (.iload_n 1, 1) := by decide +kernel
theorem dX8_jetByPosition_8 : decode cX8_jetByPosition 8 = .ok (.invokevirtual 133, 3) := by decide +kernel
theorem dX8_jetByPosition_11 : decode cX8_jetByPosition 11 = .ok (.ifCond .ne 13, 3) := by decide +kernel
theorem dX8_jetByPosition_14 : decode cX8_jetByPosition 14 = .ok (.new 136, 3) := by decide +kernel
theorem dX8_jetByPosition_17 : decode cX8_jetByPosition 17 = .ok (.dup, 1) := by decide +kernel
theorem dX8_jetByPosition_18 : decode cX8_jetByPosition 18 = .ok (.ldc 138, 2) := by decide +kernel
theorem dX8_jetByPosition_20 : decode cX8_jetByPosition 20 = .ok (.invokespecial 140, 3) := by decide +kernel
theorem dX8_jetByPosition_23 : decode cX8_jetByPosition 23 = .ok (.athrow, 1) := by decide +kernel
theorem dX8_jetByPosition_24 : decode cX8_jetByPosition 24 = .ok (.aload_n 0, 1) := by decide +kernel
theorem dX8_jetByPosition_25 : decode cX8_jetByPosition 25 = .ok (.getfield 10, 3) := by decide +kernel
theorem dX8_jetByPosition_28 : decode cX8_jetByPosition 28 = .ok (.getfield 64, 3) := by decide +kernel
theorem dX8_jetByPosition_31 : decode cX8_jetByPosition 31 = .ok (.iload_n 1, 1) := by decide +kernel
theorem dX8_jetByPosition_32 : decode cX8_jetByPosition 32 = .ok (.invokevirtual 143, 3) := by decide +kernel
theorem dX8_jetByPosition_35 : decode cX8_jetByPosition 35 = .ok (.ireturn, 1) := by decide +kernel
theorem dX8_nearestLanding_0 : decode cX8_nearestLanding 0 = .ok (.aload_n 0, 1) := by decide +kernel
theorem dX8_nearestLanding_1 : decode cX8_nearestLanding 1 = .ok (.invokevirtual 127, 3) := by decide +kernel
theorem dX8_nearestLanding_4 : decode cX8_nearestLanding 4 = .ok (.aload_n 0, 1) := by decide +kernel
theorem dX8_nearestLanding_5 : decode cX8_nearestLanding 5 = .ok (.getfield 10, 3) := by decide +kernel
theorem dX8_nearestLanding_8 : decode cX8_nearestLanding 8 = .ok (.getfield 64, 3) := by decide +kernel
theorem dX8_nearestLanding_11 : decode cX8_nearestLanding 11 = .ok (.iload_n 1, 1) := by decide +kernel
theorem dX8_nearestLanding_12 : decode cX8_nearestLanding 12 = .ok (.invokevirtual 146, 3) := by decide +kernel
theorem dX8_nearestLanding_15 : decode cX8_nearestLanding 15 = .ok (.ireturn, 1) := by decide +kernel
theorem dX8_crossings_0 : decode cX8_crossings 0 = .ok (.aload_n 0, 1) := by decide +kernel
theorem dX8_crossings_1 : decode cX8_crossings 1 = .ok (.getfield 10, 3) := by decide +kernel
theorem dX8_crossings_4 : decode cX8_crossings 4 = .ok (.getfield 64, 3) := by decide +kernel
theorem dX8_crossings_7 : decode cX8_crossings 7 = .ok (.invokevirtual 149, 3) := by decide +kernel
theorem dX8_crossings_10 : decode cX8_crossings 10 = .ok (.ireturn, 1) := by decide +kernel
theorem dX8_crossingsByMerging_0 : decode cX8_crossingsByMerging 0 = .ok (.aload_n 0, 1) := by decide +kernel
theorem dX8_crossingsByMerging_1 : decode cX8_crossingsByMerging 1 = .ok (.getfield 40, 3) := by decide +kernel
theorem dX8_crossingsByMerging_4 : decode cX8_crossingsByMerging 4 = .ok (.aload_n 0, 1) := by decide +kernel
theorem dX8_crossingsByMerging_5 : decode cX8_crossingsByMerging 5 = .ok (.getfield 10, 3) := by decide +kernel
theorem dX8_crossingsByMerging_8 : decode cX8_crossingsByMerging 8 = .ok (.getfield 64, 3) := by decide +kernel
theorem dX8_crossingsByMerging_11 : decode cX8_crossingsByMerging 11 = .ok (.invokevirtual 152, 3) := by decide +kernel
theorem dX8_crossingsByMerging_14 : decode cX8_crossingsByMerging 14 = .ok (.ireturn, 1) := by decide +kernel
theorem dX8_setCapacity_0 : decode cX8_setCapacity 0 = .ok (.aload_n 0, 1) := by decide +kernel
theorem dX8_setCapacity_1 : decode cX8_setCapacity 1 = .ok (.getfield 10, 3) := by decide +kernel
theorem dX8_setCapacity_4 : decode cX8_setCapacity 4 = .ok (.getfield 64, 3) := by decide +kernel
theorem dX8_setCapacity_7 : decode cX8_setCapacity 7 = .ok (.iload_n 1, 1) := by decide +kernel
theorem dX8_setCapacity_8 : decode cX8_setCapacity 8 = .ok (.invokevirtual 156, 3) := by decide +kernel
theorem dX8_setCapacity_11 : decode cX8_setCapacity 11 = .ok (.invokestatic 74, 3) := by decide +kernel
theorem dX8_setCapacity_14 : decode cX8_setCapacity 14 = .ok (.aload_n 0, 1) := by decide +kernel
theorem dX8_setCapacity_15 : decode cX8_setCapacity 15 = .ok (.invokevirtual 78, 3) := by decide +kernel
theorem dX8_setCapacity_18 : decode cX8_setCapacity 18 = .ok (.aload_n 0, 1) := by decide +kernel
theorem dX8_setCapacity_19 : decode cX8_setCapacity 19 = .ok (.getfield 10, 3) := by decide +kernel
theorem dX8_setCapacity_22 : decode cX8_setCapacity 22 = .ok (.getfield 64, 3) := by decide +kernel
theorem dX8_setCapacity_25 : decode cX8_setCapacity 25 = .ok (.iload_n 1, 1) := by decide +kernel
theorem dX8_setCapacity_26 : decode cX8_setCapacity 26 = .ok (.invokevirtual 159, 3) := by decide +kernel
theorem dX8_setCapacity_29 : decode cX8_setCapacity 29 = .ok (.ireturn, 1) := by decide +kernel
theorem dX8_setWind_0 : decode cX8_setWind 0 = .ok (.aload_n 0, 1) := by decide +kernel
theorem dX8_setWind_1 : decode cX8_setWind 1 = .ok (.getfield 10, 3) := by decide +kernel
theorem dX8_setWind_4 : decode cX8_setWind 4 = .ok (.getfield 64, 3) := by decide +kernel
theorem dX8_setWind_7 : decode cX8_setWind 7 = .ok (.iload_n 1, 1) := by decide +kernel
theorem dX8_setWind_8 : decode cX8_setWind 8 = .ok (.invokevirtual 162, 3) := by decide +kernel
theorem dX8_setWind_11 : decode cX8_setWind 11 = .ok (.invokestatic 74, 3) := by decide +kernel
theorem dX8_setWind_14 : decode cX8_setWind 14 = .ok (.aload_n 0, 1) := by decide +kernel
theorem dX8_setWind_15 : decode cX8_setWind 15 = .ok (.invokevirtual 78, 3) := by decide +kernel
theorem dX8_setWind_18 : decode cX8_setWind 18 = .ok (.aload_n 0, 1) := by decide +kernel
theorem dX8_setWind_19 : decode cX8_setWind 19 = .ok (.getfield 10, 3) := by decide +kernel
theorem dX8_setWind_22 : decode cX8_setWind 22 = .ok (.getfield 64, 3) := by decide +kernel
theorem dX8_setWind_25 : decode cX8_setWind 25 = .ok (.iload_n 1, 1) := by decide +kernel
theorem dX8_setWind_26 : decode cX8_setWind 26 = .ok (.invokevirtual 165, 3) := by decide +kernel
theorem dX8_setWind_29 : decode cX8_setWind 29 = .ok (.ireturn, 1) := by decide +kernel
theorem dX8_trim_0 : decode cX8_trim 0 = .ok (.aload_n 0, 1) := by decide +kernel
theorem dX8_trim_1 : decode cX8_trim 1 = .ok (.invokevirtual 78, 3) := by decide +kernel
theorem dX8_trim_4 : decode cX8_trim 4 = .ok (.aload_n 0, 1) := by decide +kernel
theorem dX8_trim_5 : decode cX8_trim 5 = .ok (.getfield 10, 3) := by decide +kernel
theorem dX8_trim_8 : decode cX8_trim 8 = .ok (.getfield 64, 3) := by decide +kernel
theorem dX8_trim_11 : decode cX8_trim 11 = .ok (.invokevirtual 168, 3) := by decide +kernel
theorem dX8_trim_14 : decode cX8_trim 14 = .ok (.ireturn, 1) := by decide +kernel
theorem dX8_capacity_0 : decode cX8_capacity 0 = .ok (.aload_n 0, 1) := by decide +kernel
theorem dX8_capacity_1 : decode cX8_capacity 1 = .ok (.getfield 10, 3) := by decide +kernel
theorem dX8_capacity_4 : decode cX8_capacity 4 = .ok (.getfield 64, 3) := by decide +kernel
theorem dX8_capacity_7 : decode cX8_capacity 7 = .ok (.getfield 171, 3) := by decide +kernel
theorem dX8_capacity_10 : decode cX8_capacity 10 = .ok (.ireturn, 1) := by decide +kernel
theorem dX8_wind_0 : decode cX8_wind 0 = .ok (.aload_n 0, 1) := by decide +kernel
theorem dX8_wind_1 : decode cX8_wind 1 = .ok (.getfield 10, 3) := by decide +kernel
theorem dX8_wind_4 : decode cX8_wind 4 = .ok (.getfield 64, 3) := by decide +kernel
theorem dX8_wind_7 : decode cX8_wind 7 = .ok (.getfield 174, 3) := by decide +kernel
theorem dX8_wind_10 : decode cX8_wind 10 = .ok (.ireturn, 1) := by decide +kernel
theorem dX8_demand_0 : decode cX8_demand 0 = .ok (.aload_n 0, 1) := by decide +kernel
theorem dX8_demand_1 : decode cX8_demand 1 = .ok (.getfield 10, 3) := by decide +kernel
theorem dX8_demand_4 : decode cX8_demand 4 = .ok (.getfield 64, 3) := by decide +kernel
theorem dX8_demand_7 : decode cX8_demand 7 = .ok (.invokevirtual 110, 3) := by decide +kernel
theorem dX8_demand_10 : decode cX8_demand 10 = .ok (.ireturn, 1) := by decide +kernel
theorem dX8_supply_0 : decode cX8_supply 0 = .ok (.aload_n 0, 1) := by decide +kernel
theorem dX8_supply_1 : decode cX8_supply 1 = .ok (.getfield 10, 3) := by decide +kernel
theorem dX8_supply_4 : decode cX8_supply 4 = .ok (.getfield 64, 3) := by decide +kernel
theorem dX8_supply_7 : decode cX8_supply 7 = .ok (.aload_n 0, 1) := by decide +kernel
theorem dX8_supply_8 : decode cX8_supply 8 = .ok (.getfield 10, 3) := by decide +kernel
theorem dX8_supply_11 : decode cX8_supply 11 = .ok (.getfield 64, 3) := by decide +kernel
theorem dX8_supply_14 : decode cX8_supply 14 = .ok (.invokevirtual 110, 3) := by decide +kernel
theorem dX8_supply_17 : decode cX8_supply 17 = .ok (.invokevirtual 177, 3) := by decide +kernel
theorem dX8_supply_20 : decode cX8_supply 20 = .ok (.ireturn, 1) := by decide +kernel
theorem dX8_pumped_0 : decode cX8_pumped 0 = .ok (.aload_n 0, 1) := by decide +kernel
theorem dX8_pumped_1 : decode cX8_pumped 1 = .ok (.getfield 10, 3) := by decide +kernel
theorem dX8_pumped_4 : decode cX8_pumped 4 = .ok (.getfield 180, 3) := by decide +kernel
theorem dX8_pumped_7 : decode cX8_pumped 7 = .ok (.lreturn, 1) := by decide +kernel
theorem dX8_shortage_0 : decode cX8_shortage 0 = .ok (.aload_n 0, 1) := by decide +kernel
theorem dX8_shortage_1 : decode cX8_shortage 1 = .ok (.getfield 10, 3) := by decide +kernel
theorem dX8_shortage_4 : decode cX8_shortage 4 = .ok (.getfield 184, 3) := by decide +kernel
theorem dX8_shortage_7 : decode cX8_shortage 7 = .ok (.lreturn, 1) := by decide +kernel
theorem dX8_addFigure_0 : decode cX8_addFigure 0 = .ok (.aload_n 0, 1) := by decide +kernel
theorem dX8_addFigure_1 : decode cX8_addFigure 1 = .ok (.getfield 10, 3) := by decide +kernel
theorem dX8_addFigure_4 : decode cX8_addFigure 4 = .ok (.getfield 187, 3) := by decide +kernel
theorem dX8_addFigure_7 : decode cX8_addFigure 7 = .ok (.invokevirtual 191, 3) := by decide +kernel
theorem dX8_addFigure_10 : decode cX8_addFigure 10 = .ok (.invokestatic 74, 3) := by decide +kernel
theorem dX8_addFigure_13 : decode cX8_addFigure 13 = .ok (.aload_n 0, 1) := by decide +kernel
theorem dX8_addFigure_14 : decode cX8_addFigure 14 = .ok (.invokevirtual 78, 3) := by decide +kernel
theorem dX8_addFigure_17 : decode cX8_addFigure 17 = .ok (.aload_n 0, 1) := by decide +kernel
theorem dX8_addFigure_18 : decode cX8_addFigure 18 = .ok (.getfield 10, 3) := by decide +kernel
theorem dX8_addFigure_21 : decode cX8_addFigure 21 = .ok (.getfield 187, 3) := by decide +kernel
theorem dX8_addFigure_24 : decode cX8_addFigure 24 = .ok (.invokevirtual 196, 3) := by decide +kernel
theorem dX8_addFigure_27 : decode cX8_addFigure 27 = .ok (.ireturn, 1) := by decide +kernel
theorem dX8_removeFigure_0 : decode cX8_removeFigure 0 = .ok (.aload_n 0, 1) := by decide +kernel
theorem dX8_removeFigure_1 : decode cX8_removeFigure 1 = .ok (.getfield 10, 3) := by decide +kernel
theorem dX8_removeFigure_4 : decode cX8_removeFigure 4 = .ok (.iload_n 1, 1) := by decide +kernel
theorem dX8_removeFigure_5 : decode cX8_removeFigure 5 = .ok (.invokevirtual 198, 3) := by decide +kernel
theorem dX8_removeFigure_8 : decode cX8_removeFigure 8 = .ok (.invokestatic 74, 3) := by decide +kernel
theorem dX8_removeFigure_11 : decode cX8_removeFigure 11 = .ok (.aload_n 0, 1) := by decide +kernel
theorem dX8_removeFigure_12 : decode cX8_removeFigure 12 = .ok (.invokevirtual 78, 3) := by decide +kernel
theorem dX8_removeFigure_15 : decode cX8_removeFigure 15 = .ok (.aload_n 0, 1) := by decide +kernel
theorem dX8_removeFigure_16 : decode cX8_removeFigure 16 = .ok (.getfield 10, 3) := by decide +kernel
theorem dX8_removeFigure_19 : decode cX8_removeFigure 19 = .ok (.iload_n 1, 1) := by decide +kernel
theorem dX8_removeFigure_20 : decode cX8_removeFigure 20 = .ok (.invokevirtual 201, 3) := by decide +kernel
theorem dX8_removeFigure_23 : decode cX8_removeFigure 23 = .ok (.ireturn, 1) := by decide +kernel
theorem dX8_addStep_0 : decode cX8_addStep 0 = .ok (.aload_n 0, 1) := by decide +kernel
theorem dX8_addStep_1 : decode cX8_addStep 1 = .ok (.getfield 10, 3) := by decide +kernel
theorem dX8_addStep_4 : decode cX8_addStep 4 = .ok (.iload_n 1, 1) := by decide +kernel
theorem dX8_addStep_5 : decode cX8_addStep 5 = .ok (.iload_n 2, 1) := by decide +kernel
theorem dX8_addStep_6 : decode cX8_addStep 6 = .ok (.iload_n 3, 1) := by decide +kernel
theorem dX8_addStep_7 : decode cX8_addStep 7 = .ok (.iload 4, 2) := by decide +kernel
theorem dX8_addStep_9 : decode cX8_addStep 9 = .ok (.invokevirtual 204, 3) := by decide +kernel
theorem dX8_addStep_12 : decode cX8_addStep 12 = .ok (.invokestatic 74, 3) := by decide +kernel
theorem dX8_addStep_15 : decode cX8_addStep 15 = .ok (.aload_n 0, 1) := by decide +kernel
theorem dX8_addStep_16 : decode cX8_addStep 16 = .ok (.invokevirtual 78, 3) := by decide +kernel
theorem dX8_addStep_19 : decode cX8_addStep 19 = .ok (.aload_n 0, 1) := by decide +kernel
theorem dX8_addStep_20 : decode cX8_addStep 20 = .ok (.getfield 10, 3) := by decide +kernel
theorem dX8_addStep_23 : decode cX8_addStep 23 = .ok (.getfield 187, 3) := by decide +kernel
theorem dX8_addStep_26 : decode cX8_addStep 26 = .ok (.iload_n 1, 1) := by decide +kernel
theorem dX8_addStep_27 : decode cX8_addStep 27 = .ok (.iload_n 2, 1) := by decide +kernel
theorem dX8_addStep_28 : decode cX8_addStep 28 = .ok (.iload_n 3, 1) := by decide +kernel
theorem dX8_addStep_29 : decode cX8_addStep 29 = .ok (.iload 4, 2) := by decide +kernel
theorem dX8_addStep_31 : decode cX8_addStep 31 = .ok (.invokevirtual 208, 3) := by decide +kernel
theorem dX8_addStep_34 : decode cX8_addStep 34 = .ok (.ireturn, 1) := by decide +kernel
theorem dX8_removeStep_0 : decode cX8_removeStep 0 = .ok (.aload_n 0, 1) := by decide +kernel
theorem dX8_removeStep_1 : decode cX8_removeStep 1 = .ok (.iload_n 1, 1) := by decide +kernel
theorem dX8_removeStep_2 : decode cX8_removeStep 2 = .ok (.iload_n 2, 1) := by decide +kernel
theorem dX8_removeStep_3 : decode cX8_removeStep 3 = .ok (.invokevirtual 212, 3) := by decide +kernel
theorem dX8_removeStep_6 : decode cX8_removeStep 6 = .ok (.aload_n 0, 1) := by decide +kernel
theorem dX8_removeStep_7 : decode cX8_removeStep 7 = .ok (.invokevirtual 78, 3) := by decide +kernel
theorem dX8_removeStep_10 : decode cX8_removeStep 10 = .ok (.aload_n 0, 1) := by decide +kernel
theorem dX8_removeStep_11 : decode cX8_removeStep 11 = .ok (.getfield 10, 3) := by decide +kernel
theorem dX8_removeStep_14 : decode cX8_removeStep 14 = .ok (.getfield 187, 3) := by decide +kernel
theorem dX8_removeStep_17 : decode cX8_removeStep 17 = .ok (.iload_n 1, 1) := by decide +kernel
theorem dX8_removeStep_18 : decode cX8_removeStep 18 = .ok (.iload_n 2, 1) := by decide +kernel
theorem dX8_removeStep_19 : decode cX8_removeStep 19 = .ok (.invokevirtual 216, 3) := by decide +kernel
theorem dX8_removeStep_22 : decode cX8_removeStep 22 = .ok (.ireturn, 1) := by decide +kernel
theorem dX8_figureCount_0 : decode cX8_figureCount 0 = .ok (.aload_n 0, 1) := by decide +kernel
theorem dX8_figureCount_1 : decode cX8_figureCount 1 = .ok (.getfield 10, 3) := by decide +kernel
theorem dX8_figureCount_4 : decode cX8_figureCount 4 = .ok (.getfield 187, 3) := by decide +kernel
theorem dX8_figureCount_7 : decode cX8_figureCount 7 = .ok (.getfield 219, 3) := by decide +kernel
theorem dX8_figureCount_10 : decode cX8_figureCount 10 = .ok (.ireturn, 1) := by decide +kernel
theorem dX8_stepCount_0 : decode cX8_stepCount 0 = .ok (.aload_n 0, 1) := by decide +kernel
theorem dX8_stepCount_1 : decode cX8_stepCount 1 = .ok (.iload_n 1, 1) := by decide +kernel
theorem dX8_stepCount_2 : decode cX8_stepCount 2 = .ok (.invokevirtual 220, 3) := by decide +kernel
theorem dX8_stepCount_5 : decode cX8_stepCount 5 = .ok (.aload_n 0, 1) := by decide +kernel
theorem dX8_stepCount_6 : decode cX8_stepCount 6 = .ok (.getfield 10, 3) := by decide +kernel
theorem dX8_stepCount_9 : decode cX8_stepCount 9 = .ok (.getfield 187, 3) := by decide +kernel
theorem dX8_stepCount_12 : decode cX8_stepCount 12 = .ok (.getfield 223, 3) := by decide +kernel
theorem dX8_stepCount_15 : decode cX8_stepCount 15 = .ok (.iload_n 1, 1) := by decide +kernel
theorem dX8_stepCount_16 : decode cX8_stepCount 16 = .ok (.iaload, 1) := by decide +kernel
theorem dX8_stepCount_17 : decode cX8_stepCount 17 = .ok (.ireturn, 1) := by decide +kernel
theorem dX8_stepDelay_0 : decode cX8_stepDelay 0 = .ok (.aload_n 0, 1) := by decide +kernel
theorem dX8_stepDelay_1 : decode cX8_stepDelay 1 = .ok (.iload_n 1, 1) := by decide +kernel
theorem dX8_stepDelay_2 : decode cX8_stepDelay 2 = .ok (.iload_n 2, 1) := by decide +kernel
theorem dX8_stepDelay_3 : decode cX8_stepDelay 3 = .ok (.invokevirtual 212, 3) := by decide +kernel
theorem dX8_stepDelay_6 : decode cX8_stepDelay 6 = .ok (.aload_n 0, 1) := by decide +kernel
theorem dX8_stepDelay_7 : decode cX8_stepDelay 7 = .ok (.getfield 10, 3) := by decide +kernel
theorem dX8_stepDelay_10 : decode cX8_stepDelay 10 = .ok (.getfield 187, 3) := by decide +kernel
theorem dX8_stepDelay_13 : decode cX8_stepDelay 13 = .ok (.getfield 226, 3) := by decide +kernel
theorem dX8_stepDelay_16 : decode cX8_stepDelay 16 = .ok (.iload_n 1, 1) := by decide +kernel
theorem dX8_stepDelay_17 : decode cX8_stepDelay 17 = .ok (.iload_n 2, 1) := by decide +kernel
theorem dX8_stepDelay_18 : decode cX8_stepDelay 18 = .ok (.invokestatic 229, 3) := by decide +kernel
theorem dX8_stepDelay_21 : decode cX8_stepDelay 21 = .ok (.iaload, 1) := by decide +kernel
theorem dX8_stepDelay_22 : decode cX8_stepDelay 22 = .ok (.ireturn, 1) := by decide +kernel
theorem dX8_stepJet_0 : decode cX8_stepJet 0 = .ok (.aload_n 0, 1) := by decide +kernel
theorem dX8_stepJet_1 : decode cX8_stepJet 1 = .ok (.iload_n 1, 1) := by decide +kernel
theorem dX8_stepJet_2 : decode cX8_stepJet 2 = .ok (.iload_n 2, 1) := by decide +kernel
theorem dX8_stepJet_3 : decode cX8_stepJet 3 = .ok (.invokevirtual 212, 3) := by decide +kernel
theorem dX8_stepJet_6 : decode cX8_stepJet 6 = .ok (.aload_n 0, 1) := by decide +kernel
theorem dX8_stepJet_7 : decode cX8_stepJet 7 = .ok (.getfield 10, 3) := by decide +kernel
theorem dX8_stepJet_10 : decode cX8_stepJet 10 = .ok (.getfield 187, 3) := by decide +kernel
theorem dX8_stepJet_13 : decode cX8_stepJet 13 = .ok (.getfield 232, 3) := by decide +kernel
theorem dX8_stepJet_16 : decode cX8_stepJet 16 = .ok (.iload_n 1, 1) := by decide +kernel
theorem dX8_stepJet_17 : decode cX8_stepJet 17 = .ok (.iload_n 2, 1) := by decide +kernel
theorem dX8_stepJet_18 : decode cX8_stepJet 18 = .ok (.invokestatic 229, 3) := by decide +kernel
theorem dX8_stepJet_21 : decode cX8_stepJet 21 = .ok (.iaload, 1) := by decide +kernel
theorem dX8_stepJet_22 : decode cX8_stepJet 22 = .ok (.ireturn, 1) := by decide +kernel
theorem dX8_stepOpening_0 : decode cX8_stepOpening 0 = .ok (.aload_n 0, 1) := by decide +kernel
theorem dX8_stepOpening_1 : decode cX8_stepOpening 1 = .ok (.iload_n 1, 1) := by decide +kernel
theorem dX8_stepOpening_2 : decode cX8_stepOpening 2 = .ok (.iload_n 2, 1) := by decide +kernel
theorem dX8_stepOpening_3 : decode cX8_stepOpening 3 = .ok (.invokevirtual 212, 3) := by decide +kernel
theorem dX8_stepOpening_6 : decode cX8_stepOpening 6 = .ok (.aload_n 0, 1) := by decide +kernel
theorem dX8_stepOpening_7 : decode cX8_stepOpening 7 = .ok (.getfield 10, 3) := by decide +kernel
theorem dX8_stepOpening_10 : decode cX8_stepOpening 10 = .ok (.getfield 187, 3) := by decide +kernel
theorem dX8_stepOpening_13 : decode cX8_stepOpening 13 = .ok (.getfield 234, 3) := by decide +kernel
theorem dX8_stepOpening_16 : decode cX8_stepOpening 16 = .ok (.iload_n 1, 1) := by decide +kernel
theorem dX8_stepOpening_17 : decode cX8_stepOpening 17 = .ok (.iload_n 2, 1) := by decide +kernel
theorem dX8_stepOpening_18 : decode cX8_stepOpening 18 = .ok (.invokestatic 229, 3) := by decide +kernel
theorem dX8_stepOpening_21 : decode cX8_stepOpening 21 = .ok (.iaload, 1) := by decide +kernel
theorem dX8_stepOpening_22 : decode cX8_stepOpening 22 = .ok (.ireturn, 1) := by decide +kernel
theorem dX8_figureLength_0 : decode cX8_figureLength 0 = .ok (.aload_n 0, 1) := by decide +kernel
theorem dX8_figureLength_1 : decode cX8_figureLength 1 = .ok (.iload_n 1, 1) := by decide +kernel
theorem dX8_figureLength_2 : decode cX8_figureLength 2 = .ok (.invokevirtual 220, 3) := by decide +kernel
theorem dX8_figureLength_5 : decode cX8_figureLength 5 = .ok (.aload_n 0, 1) := by decide +kernel
theorem dX8_figureLength_6 : decode cX8_figureLength 6 = .ok (.getfield 10, 3) := by decide +kernel
theorem dX8_figureLength_9 : decode cX8_figureLength 9 = .ok (.getfield 187, 3) := by decide +kernel
theorem dX8_figureLength_12 : decode cX8_figureLength 12 = .ok (.iload_n 1, 1) := by decide +kernel
theorem dX8_figureLength_13 : decode cX8_figureLength 13 = .ok (.invokevirtual 235, 3) := by decide +kernel
theorem dX8_figureLength_16 : decode cX8_figureLength 16 = .ok (.ireturn, 1) := by decide +kernel
theorem dX8_figuresUsing_0 : decode cX8_figuresUsing 0 = .ok (.aload_n 0, 1) := by decide +kernel
theorem dX8_figuresUsing_1 : decode cX8_figuresUsing 1 = .ok (.iload_n 1, 1) := by decide +kernel
theorem dX8_figuresUsing_2 : decode cX8_figuresUsing 2 = .ok (.invokevirtual 85, 3) := by decide +kernel
theorem dX8_figuresUsing_5 : decode cX8_figuresUsing 5 = .ok (.aload_n 0, 1) := by decide +kernel
theorem dX8_figuresUsing_6 : decode cX8_figuresUsing 6 = .ok (.getfield 10, 3) := by decide +kernel
theorem dX8_figuresUsing_9 : decode cX8_figuresUsing 9 = .ok (.getfield 187, 3) := by decide +kernel
theorem dX8_figuresUsing_12 : decode cX8_figuresUsing 12 = .ok (.iload_n 1, 1) := by decide +kernel
theorem dX8_figuresUsing_13 : decode cX8_figuresUsing 13 = .ok (.invokevirtual 238, 3) := by decide +kernel
theorem dX8_figuresUsing_16 : decode cX8_figuresUsing 16 = .ok (.ireturn, 1) := by decide +kernel
theorem dX8_play_0 : decode cX8_play 0 = .ok (.aload_n 0, 1) := by decide +kernel
theorem dX8_play_1 : decode cX8_play 1 = .ok (.getfield 10, 3) := by decide +kernel
theorem dX8_play_4 : decode cX8_play 4 = .ok (.iload_n 1, 1) := by decide +kernel
theorem dX8_play_5 : decode cX8_play 5 = .ok (.iload_n 2, 1) := by decide +kernel
theorem dX8_play_6 : decode cX8_play 6 = .ok (.invokevirtual 241, 3) := by decide +kernel
theorem dX8_play_9 : decode cX8_play 9 = .ok (.invokestatic 74, 3) := by decide +kernel
theorem dX8_play_12 : decode cX8_play 12 = .ok (.aload_n 0, 1) := by decide +kernel
theorem dX8_play_13 : decode cX8_play 13 = .ok (.invokevirtual 78, 3) := by decide +kernel
theorem dX8_play_16 : decode cX8_play 16 = .ok (.aload_n 0, 1) := by decide +kernel
theorem dX8_play_17 : decode cX8_play 17 = .ok (.getfield 10, 3) := by decide +kernel
theorem dX8_play_20 : decode cX8_play 20 = .ok (.iload_n 1, 1) := by decide +kernel
theorem dX8_play_21 : decode cX8_play 21 = .ok (.iload_n 2, 1) := by decide +kernel
theorem dX8_play_22 : decode cX8_play 22 = .ok (.invokevirtual 244, 3) := by decide +kernel
theorem dX8_play_25 : decode cX8_play 25 = .ok (.ireturn, 1) := by decide +kernel
theorem dX8_cancel_0 : decode cX8_cancel 0 = .ok (.aload_n 0, 1) := by decide +kernel
theorem dX8_cancel_1 : decode cX8_cancel 1 = .ok (.iload_n 1, 1) := by decide +kernel
theorem dX8_cancel_2 : decode cX8_cancel 2 = .ok (.invokevirtual 247, 3) := by decide +kernel
theorem dX8_cancel_5 : decode cX8_cancel 5 = .ok (.aload_n 0, 1) := by decide +kernel
theorem dX8_cancel_6 : decode cX8_cancel 6 = .ok (.invokevirtual 78, 3) := by decide +kernel
theorem dX8_cancel_9 : decode cX8_cancel 9 = .ok (.aload_n 0, 1) := by decide +kernel
theorem dX8_cancel_10 : decode cX8_cancel 10 = .ok (.getfield 10, 3) := by decide +kernel
theorem dX8_cancel_13 : decode cX8_cancel 13 = .ok (.iload_n 1, 1) := by decide +kernel
theorem dX8_cancel_14 : decode cX8_cancel 14 = .ok (.invokevirtual 250, 3) := by decide +kernel
theorem dX8_cancel_17 : decode cX8_cancel 17 = .ok (.ireturn, 1) := by decide +kernel
theorem dX8_pass_0 : decode cX8_pass 0 = .ok (.aload_n 0, 1) := by decide +kernel
theorem dX8_pass_1 : decode cX8_pass 1 = .ok (.getfield 10, 3) := by decide +kernel
theorem dX8_pass_4 : decode cX8_pass 4 = .ok (.iload_n 1, 1) := by decide +kernel
theorem dX8_pass_5 : decode cX8_pass 5 = .ok (.invokevirtual 253, 3) := by decide +kernel
theorem dX8_pass_8 : decode cX8_pass 8 = .ok (.invokestatic 74, 3) := by decide +kernel
theorem dX8_pass_11 : decode cX8_pass 11 = .ok (.aload_n 0, 1) := by decide +kernel
theorem dX8_pass_12 : decode cX8_pass 12 = .ok (.invokevirtual 78, 3) := by decide +kernel
theorem dX8_pass_15 : decode cX8_pass 15 = .ok (.aload_n 0, 1) := by decide +kernel
theorem dX8_pass_16 : decode cX8_pass 16 = .ok (.getfield 10, 3) := by decide +kernel
theorem dX8_pass_19 : decode cX8_pass 19 = .ok (.iload_n 1, 1) := by decide +kernel
theorem dX8_pass_20 : decode cX8_pass 20 = .ok (.invokevirtual 256, 3) := by decide +kernel
theorem dX8_pass_23 : decode cX8_pass 23 = .ok (.ireturn, 1) := by decide +kernel
theorem dX8_beat_0 : decode cX8_beat 0 = .ok (.aload_n 0, 1) := by decide +kernel
theorem dX8_beat_1 : decode cX8_beat 1 = .ok (.getfield 10, 3) := by decide +kernel
theorem dX8_beat_4 : decode cX8_beat 4 = .ok (.getfield 259, 3) := by decide +kernel
theorem dX8_beat_7 : decode cX8_beat 7 = .ok (.ireturn, 1) := by decide +kernel
theorem dX8_queueLength_0 : decode cX8_queueLength 0 = .ok (.aload_n 0, 1) := by decide +kernel
theorem dX8_queueLength_1 : decode cX8_queueLength 1 = .ok (.getfield 10, 3) := by decide +kernel
theorem dX8_queueLength_4 : decode cX8_queueLength 4 = .ok (.getfield 262, 3) := by decide +kernel
theorem dX8_queueLength_7 : decode cX8_queueLength 7 = .ok (.ireturn, 1) := by decide +kernel
theorem dX8_entryFigure_0 : decode cX8_entryFigure 0 = .ok (.aload_n 0, 1) := by decide +kernel
theorem dX8_entryFigure_1 : decode cX8_entryFigure 1 = .ok (.iload_n 1, 1) := by decide +kernel
theorem dX8_entryFigure_2 : decode cX8_entryFigure 2 = .ok (.invokevirtual 247, 3) := by decide +kernel
theorem dX8_entryFigure_5 : decode cX8_entryFigure 5 = .ok (.aload_n 0, 1) := by decide +kernel
theorem dX8_entryFigure_6 : decode cX8_entryFigure 6 = .ok (.getfield 10, 3) := by decide +kernel
theorem dX8_entryFigure_9 : decode cX8_entryFigure 9 = .ok (.getfield 265, 3) := by decide +kernel
theorem dX8_entryFigure_12 : decode cX8_entryFigure 12 = .ok (.iload_n 1, 1) := by decide +kernel
theorem dX8_entryFigure_13 : decode cX8_entryFigure 13 = .ok (.iaload, 1) := by decide +kernel
theorem dX8_entryFigure_14 : decode cX8_entryFigure 14 = .ok (.ireturn, 1) := by decide +kernel
theorem dX8_entryStart_0 : decode cX8_entryStart 0 = .ok (.aload_n 0, 1) := by decide +kernel
theorem dX8_entryStart_1 : decode cX8_entryStart 1 = .ok (.iload_n 1, 1) := by decide +kernel
theorem dX8_entryStart_2 : decode cX8_entryStart 2 = .ok (.invokevirtual 247, 3) := by decide +kernel
theorem dX8_entryStart_5 : decode cX8_entryStart 5 = .ok (.aload_n 0, 1) := by decide +kernel
theorem dX8_entryStart_6 : decode cX8_entryStart 6 = .ok (.getfield 10, 3) := by decide +kernel
theorem dX8_entryStart_9 : decode cX8_entryStart 9 = .ok (.getfield 268, 3) := by decide +kernel
theorem dX8_entryStart_12 : decode cX8_entryStart 12 = .ok (.iload_n 1, 1) := by decide +kernel
theorem dX8_entryStart_13 : decode cX8_entryStart 13 = .ok (.iaload, 1) := by decide +kernel
theorem dX8_entryStart_14 : decode cX8_entryStart 14 = .ok (.ireturn, 1) := by decide +kernel
theorem dX8_beatsUntilEmpty_0 : decode cX8_beatsUntilEmpty 0 = .ok (.aload_n 0, 1) := by decide +kernel
theorem dX8_beatsUntilEmpty_1 : decode cX8_beatsUntilEmpty 1 = .ok (.getfield 10, 3) := by decide +kernel
theorem dX8_beatsUntilEmpty_4 : decode cX8_beatsUntilEmpty 4 = .ok (.invokevirtual 271, 3) := by decide +kernel
theorem dX8_beatsUntilEmpty_7 : decode cX8_beatsUntilEmpty 7 = .ok (.ireturn, 1) := by decide +kernel
theorem dX8_demandAfter_0 : decode cX8_demandAfter 0 = .ok (.iload_n 1, 1) := by decide +kernel
theorem dX8_demandAfter_1 : decode cX8_demandAfter 1 = .ok (.invokestatic 274, 3) := by decide +kernel
theorem dX8_demandAfter_4 : decode cX8_demandAfter 4 = .ok (.aload_n 0, 1) := by decide +kernel
theorem dX8_demandAfter_5 : decode cX8_demandAfter 5 = .ok (.getfield 16, 3) := by decide +kernel
theorem dX8_demandAfter_8 : decode cX8_demandAfter 8 = .ok (.aload_n 0, 1) := by decide +kernel
theorem dX8_demandAfter_9 : decode cX8_demandAfter 9 = .ok (.getfield 10, 3) := by decide +kernel
theorem dX8_demandAfter_12 : decode cX8_demandAfter 12 = .ok (.invokevirtual 277, 3) := by decide +kernel
theorem dX8_demandAfter_15 : decode cX8_demandAfter 15 = .ok (.aload_n 0, 1) := by decide +kernel
theorem dX8_demandAfter_16 : decode cX8_demandAfter 16 = .ok (.getfield 16, 3) := by decide +kernel
theorem dX8_demandAfter_19 : decode cX8_demandAfter 19 = .ok (.iload_n 1, 1) := by decide +kernel
theorem dX8_demandAfter_20 : decode cX8_demandAfter 20 = .ok (.invokevirtual 256, 3) := by decide +kernel
theorem dX8_demandAfter_23 : decode cX8_demandAfter 23 = .ok (.pop, 1) := by decide +kernel
theorem dX8_demandAfter_24 : decode cX8_demandAfter 24 = .ok (.aload_n 0, 1) := by decide +kernel
theorem dX8_demandAfter_25 : decode cX8_demandAfter 25 = .ok (.getfield 16, 3) := by decide +kernel
theorem dX8_demandAfter_28 : decode cX8_demandAfter 28 = .ok (.getfield 64, 3) := by decide +kernel
theorem dX8_demandAfter_31 : decode cX8_demandAfter 31 = .ok (.invokevirtual 110, 3) := by decide +kernel
theorem dX8_demandAfter_34 : decode cX8_demandAfter 34 = .ok (.ireturn, 1) := by decide +kernel
theorem dX8_demandAfterBySteps_0 : decode cX8_demandAfterBySteps 0 = .ok (.iload_n 1, 1) := by decide +kernel
theorem dX8_demandAfterBySteps_1 : decode cX8_demandAfterBySteps 1 = .ok (.invokestatic 274, 3) := by decide +kernel
theorem dX8_demandAfterBySteps_4 : decode cX8_demandAfterBySteps 4 = .ok (.aload_n 0, 1) := by decide +kernel
theorem dX8_demandAfterBySteps_5 : decode cX8_demandAfterBySteps 5 = .ok (.getfield 10, 3) := by decide +kernel
theorem dX8_demandAfterBySteps_8 : decode cX8_demandAfterBySteps 8 = .ok (.iload_n 1, 1) := by decide +kernel
theorem dX8_demandAfterBySteps_9 : decode cX8_demandAfterBySteps 9 = .ok (.invokevirtual 281, 3) := by decide +kernel
theorem dX8_demandAfterBySteps_12 : decode cX8_demandAfterBySteps 12 = .ok (.ireturn, 1) := by decide +kernel
theorem dX8_firstOverload_0 : decode cX8_firstOverload 0 = .ok (.iload_n 1, 1) := by decide +kernel
theorem dX8_firstOverload_1 : decode cX8_firstOverload 1 = .ok (.invokestatic 274, 3) := by decide +kernel
theorem dX8_firstOverload_4 : decode cX8_firstOverload 4 = .ok (.aload_n 0, 1) := by decide +kernel
theorem dX8_firstOverload_5 : decode cX8_firstOverload 5 = .ok (.getfield 16, 3) := by decide +kernel
theorem dX8_firstOverload_8 : decode cX8_firstOverload 8 = .ok (.aload_n 0, 1) := by decide +kernel
theorem dX8_firstOverload_9 : decode cX8_firstOverload 9 = .ok (.getfield 10, 3) := by decide +kernel
theorem dX8_firstOverload_12 : decode cX8_firstOverload 12 = .ok (.invokevirtual 277, 3) := by decide +kernel
theorem dX8_firstOverload_15 : decode cX8_firstOverload 15 = .ok (.iconst 1, 1) := by decide +kernel
theorem dX8_firstOverload_16 : decode cX8_firstOverload 16 = .ok (.istore_n 2, 1) := by decide +kernel
theorem dX8_firstOverload_17 : decode cX8_firstOverload 17 = .ok (.iload_n 2, 1) := by decide +kernel
theorem dX8_firstOverload_18 : decode cX8_firstOverload 18 = .ok (.iload_n 1, 1) := by decide +kernel
theorem dX8_firstOverload_19 : decode cX8_firstOverload 19 = .ok (.if_icmp .gt 42, 3) := by decide +kernel
theorem dX8_firstOverload_22 : decode cX8_firstOverload 22 = .ok (.aload_n 0, 1) := by decide +kernel
theorem dX8_firstOverload_23 : decode cX8_firstOverload 23 = .ok (.getfield 16, 3) := by decide +kernel
theorem dX8_firstOverload_26 : decode cX8_firstOverload 26 = .ok (.invokevirtual 284, 3) := by decide +kernel
theorem dX8_firstOverload_29 : decode cX8_firstOverload 29 = .ok (.pop, 1) := by decide +kernel
theorem dX8_firstOverload_30 : decode cX8_firstOverload 30 = .ok (.aload_n 0, 1) := by decide +kernel
theorem dX8_firstOverload_31 : decode cX8_firstOverload 31 = .ok (.getfield 16, 3) := by decide +kernel
theorem dX8_firstOverload_34 : decode cX8_firstOverload 34 = .ok (.getfield 64, 3) := by decide +kernel
theorem dX8_firstOverload_37 : decode cX8_firstOverload 37 = .ok (.invokevirtual 110, 3) := by decide +kernel
theorem dX8_firstOverload_40 : decode cX8_firstOverload 40 = .ok (.aload_n 0, 1) := by decide +kernel
theorem dX8_firstOverload_41 : decode cX8_firstOverload 41 = .ok (.getfield 16, 3) := by decide +kernel
theorem dX8_firstOverload_44 : decode cX8_firstOverload 44 = .ok (.getfield 64, 3) := by decide +kernel
theorem dX8_firstOverload_47 : decode cX8_firstOverload 47 = .ok (.getfield 171, 3) := by decide +kernel
theorem dX8_firstOverload_50 : decode cX8_firstOverload 50 = .ok (.if_icmp .le 5, 3) := by decide +kernel
theorem dX8_firstOverload_53 : decode cX8_firstOverload 53 = .ok (.iload_n 2, 1) := by decide +kernel
theorem dX8_firstOverload_54 : decode cX8_firstOverload 54 = .ok (.ireturn, 1) := by decide +kernel
theorem dX8_firstOverload_55 : decode cX8_firstOverload 55 = .ok (.iinc 2 1, 3) := by decide +kernel
theorem dX8_firstOverload_58 : decode cX8_firstOverload 58 = .ok (.goto (-41), 3) := by decide +kernel
theorem dX8_firstOverload_61 : decode cX8_firstOverload 61 = .ok (.new 136, 3) := by decide +kernel
theorem dX8_firstOverload_64 : decode cX8_firstOverload 64 = .ok (.dup, 1) := by decide +kernel
theorem dX8_firstOverload_65 : decode cX8_firstOverload 65 = .ok (.ldc_w 287, 3) := by decide +kernel
theorem dX8_firstOverload_68 : decode cX8_firstOverload 68 = .ok (.invokespecial 140, 3) := by decide +kernel
theorem dX8_firstOverload_71 : decode cX8_firstOverload 71 = .ok (.athrow, 1) := by decide +kernel
theorem dX8_meanOpening_0 : decode cX8_meanOpening 0 = .ok (.aload_n 0, 1) := by decide +kernel
theorem dX8_meanOpening_1 : decode cX8_meanOpening 1 = .ok (.getfield 10, 3) := by decide +kernel
theorem dX8_meanOpening_4 : decode cX8_meanOpening 4 = .ok (.getfield 64, 3) := by decide +kernel
theorem dX8_meanOpening_7 : decode cX8_meanOpening 7 = .ok (.getfield 100, 3) := by decide +kernel
theorem dX8_meanOpening_10 : decode cX8_meanOpening 10 = .ok (.istore_n 1, 1) := by decide +kernel
theorem dX8_meanOpening_11 : decode cX8_meanOpening 11 = .ok (.iload_n 1, 1) := by decide +kernel
theorem dX8_meanOpening_12 : decode cX8_meanOpening 12 = .ok (.ifCond .ne 14, 3) := by decide +kernel
theorem dX8_meanOpening_15 : decode cX8_meanOpening 15 = .ok (.new 289, 3) := by decide +kernel
theorem dX8_meanOpening_18 : decode cX8_meanOpening 18 = .ok (.dup, 1) := by decide +kernel
theorem dX8_meanOpening_19 : decode cX8_meanOpening 19 = .ok (.ldc_w 291, 3) := by decide +kernel
theorem dX8_meanOpening_22 : decode cX8_meanOpening 22 = .ok (.invokespecial 293, 3) := by decide +kernel
theorem dX8_meanOpening_25 : decode cX8_meanOpening 25 = .ok (.athrow, 1) := by decide +kernel
theorem dX8_meanOpening_26 : decode cX8_meanOpening 26 = .ok (.aload_n 0, 1) := by decide +kernel
theorem dX8_meanOpening_27 : decode cX8_meanOpening 27 = .ok (.getfield 10, 3) := by decide +kernel
theorem dX8_meanOpening_30 : decode cX8_meanOpening 30 = .ok (.getfield 64, 3) := by decide +kernel
theorem dX8_meanOpening_33 : decode cX8_meanOpening 33 = .ok (.invokevirtual 110, 3) := by decide +kernel
theorem dX8_meanOpening_36 : decode cX8_meanOpening 36 = .ok (.i2d, 1) := by decide +kernel
theorem dX8_meanOpening_37 : decode cX8_meanOpening 37 = .ok (.iload_n 1, 1) := by decide +kernel
theorem dX8_meanOpening_38 : decode cX8_meanOpening 38 = .ok (.i2d, 1) := by decide +kernel
theorem dX8_meanOpening_39 : decode cX8_meanOpening 39 = .ok (.ddiv, 1) := by decide +kernel
theorem dX8_meanOpening_40 : decode cX8_meanOpening 40 = .ok (.dreturn, 1) := by decide +kernel
theorem dX8_supplyFraction_0 : decode cX8_supplyFraction 0 = .ok (.aload_n 0, 1) := by decide +kernel
theorem dX8_supplyFraction_1 : decode cX8_supplyFraction 1 = .ok (.getfield 10, 3) := by decide +kernel
theorem dX8_supplyFraction_4 : decode cX8_supplyFraction 4 = .ok (.getfield 64, 3) := by decide +kernel
theorem dX8_supplyFraction_7 : decode cX8_supplyFraction 7 = .ok (.invokevirtual 110, 3) := by decide +kernel
theorem dX8_supplyFraction_10 : decode cX8_supplyFraction 10 = .ok (.istore_n 1, 1) := by decide +kernel
theorem dX8_supplyFraction_11 : decode cX8_supplyFraction 11 = .ok (.iload_n 1, 1) := by decide +kernel
theorem dX8_supplyFraction_12 : decode cX8_supplyFraction 12 = .ok (.ifCond .ne 14, 3) := by decide +kernel
theorem dX8_supplyFraction_15 : decode cX8_supplyFraction 15 = .ok (.new 289, 3) := by decide +kernel
theorem dX8_supplyFraction_18 : decode cX8_supplyFraction 18 = .ok (.dup, 1) := by decide +kernel
theorem dX8_supplyFraction_19 : decode cX8_supplyFraction 19 = .ok (.ldc_w 294, 3) := by decide +kernel
theorem dX8_supplyFraction_22 : decode cX8_supplyFraction 22 = .ok (.invokespecial 293, 3) := by decide +kernel
theorem dX8_supplyFraction_25 : decode cX8_supplyFraction 25 = .ok (.athrow, 1) := by decide +kernel
theorem dX8_supplyFraction_26 : decode cX8_supplyFraction 26 = .ok (.aload_n 0, 1) := by decide +kernel
theorem dX8_supplyFraction_27 : decode cX8_supplyFraction 27 = .ok (.getfield 10, 3) := by decide +kernel
theorem dX8_supplyFraction_30 : decode cX8_supplyFraction 30 = .ok (.getfield 64, 3) := by decide +kernel
theorem dX8_supplyFraction_33 : decode cX8_supplyFraction 33 = .ok (.iload_n 1, 1) := by decide +kernel
theorem dX8_supplyFraction_34 : decode cX8_supplyFraction 34 = .ok (.invokevirtual 177, 3) := by decide +kernel
theorem dX8_supplyFraction_37 : decode cX8_supplyFraction 37 = .ok (.i2f, 1) := by decide +kernel
theorem dX8_supplyFraction_38 : decode cX8_supplyFraction 38 = .ok (.iload_n 1, 1) := by decide +kernel
theorem dX8_supplyFraction_39 : decode cX8_supplyFraction 39 = .ok (.i2f, 1) := by decide +kernel
theorem dX8_supplyFraction_40 : decode cX8_supplyFraction 40 = .ok (.fdiv, 1) := by decide +kernel
theorem dX8_supplyFraction_41 : decode cX8_supplyFraction 41 = .ok (.freturn, 1) := by decide +kernel
theorem dX8_writeFigure_0 : decode cX8_writeFigure 0 = .ok (.aload_n 0, 1) := by decide +kernel
theorem dX8_writeFigure_1 : decode cX8_writeFigure 1 = .ok (.iload_n 1, 1) := by decide +kernel
theorem dX8_writeFigure_2 : decode cX8_writeFigure 2 = .ok (.invokevirtual 220, 3) := by decide +kernel
theorem dX8_writeFigure_5 : decode cX8_writeFigure 5 = .ok (.aload_n 0, 1) := by decide +kernel
theorem dX8_writeFigure_6 : decode cX8_writeFigure 6 = .ok (.getfield 54, 3) := by decide +kernel
theorem dX8_writeFigure_9 : decode cX8_writeFigure 9 = .ok (.iconst 0, 1) := by decide +kernel
theorem dX8_writeFigure_10 : decode cX8_writeFigure 10 = .ok (.invokevirtual 296, 3) := by decide +kernel
theorem dX8_writeFigure_13 : decode cX8_writeFigure 13 = .ok (.iconst 0, 1) := by decide +kernel
theorem dX8_writeFigure_14 : decode cX8_writeFigure 14 = .ok (.istore_n 2, 1) := by decide +kernel
theorem dX8_writeFigure_15 : decode cX8_writeFigure 15 = .ok (.iload_n 2, 1) := by decide +kernel
theorem dX8_writeFigure_16 : decode cX8_writeFigure 16 = .ok (.aload_n 0, 1) := by decide +kernel
theorem dX8_writeFigure_17 : decode cX8_writeFigure 17 = .ok (.getfield 10, 3) := by decide +kernel
theorem dX8_writeFigure_20 : decode cX8_writeFigure 20 = .ok (.getfield 187, 3) := by decide +kernel
theorem dX8_writeFigure_23 : decode cX8_writeFigure 23 = .ok (.getfield 223, 3) := by decide +kernel
theorem dX8_writeFigure_26 : decode cX8_writeFigure 26 = .ok (.iload_n 1, 1) := by decide +kernel
theorem dX8_writeFigure_27 : decode cX8_writeFigure 27 = .ok (.iaload, 1) := by decide +kernel
theorem dX8_writeFigure_28 : decode cX8_writeFigure 28 = .ok (.if_icmp .ge 18, 3) := by decide +kernel
theorem dX8_writeFigure_31 : decode cX8_writeFigure 31 = .ok (.aload_n 0, 1) := by decide +kernel
theorem dX8_writeFigure_32 : decode cX8_writeFigure 32 = .ok (.iload_n 1, 1) := by decide +kernel
theorem dX8_writeFigure_33 : decode cX8_writeFigure 33 = .ok (.iload_n 2, 1) := by decide +kernel
theorem dX8_writeFigure_34 : decode cX8_writeFigure 34 = .ok (.invokestatic 229, 3) := by decide +kernel
theorem dX8_writeFigure_37 : decode cX8_writeFigure 37 = .ok (.invokevirtual 299, 3) := by decide +kernel
theorem dX8_writeFigure_40 : decode cX8_writeFigure 40 = .ok (.iinc 2 1, 3) := by decide +kernel
theorem dX8_writeFigure_43 : decode cX8_writeFigure 43 = .ok (.goto (-28), 3) := by decide +kernel
theorem dX8_writeFigure_46 : decode cX8_writeFigure 46 = .ok (.aload_n 0, 1) := by decide +kernel
theorem dX8_writeFigure_47 : decode cX8_writeFigure 47 = .ok (.getfield 54, 3) := by decide +kernel
theorem dX8_writeFigure_50 : decode cX8_writeFigure 50 = .ok (.invokevirtual 302, 3) := by decide +kernel
theorem dX8_writeFigure_53 : decode cX8_writeFigure 53 = .ok (.ireturn, 1) := by decide +kernel
theorem dX8_outputCharacter_0 : decode cX8_outputCharacter 0 = .ok (.iload_n 1, 1) := by decide +kernel
theorem dX8_outputCharacter_1 : decode cX8_outputCharacter 1 = .ok (.ifCond .lt 14, 3) := by decide +kernel
theorem dX8_outputCharacter_4 : decode cX8_outputCharacter 4 = .ok (.iload_n 1, 1) := by decide +kernel
theorem dX8_outputCharacter_5 : decode cX8_outputCharacter 5 = .ok (.aload_n 0, 1) := by decide +kernel
theorem dX8_outputCharacter_6 : decode cX8_outputCharacter 6 = .ok (.getfield 54, 3) := by decide +kernel
theorem dX8_outputCharacter_9 : decode cX8_outputCharacter 9 = .ok (.invokevirtual 302, 3) := by decide +kernel
theorem dX8_outputCharacter_12 : decode cX8_outputCharacter 12 = .ok (.if_icmp .lt 14, 3) := by decide +kernel
theorem dX8_outputCharacter_15 : decode cX8_outputCharacter 15 = .ok (.new 305, 3) := by decide +kernel
theorem dX8_outputCharacter_18 : decode cX8_outputCharacter 18 = .ok (.dup, 1) := by decide +kernel
theorem dX8_outputCharacter_19 : decode cX8_outputCharacter 19 = .ok (.ldc_w 307, 3) := by decide +kernel
theorem dX8_outputCharacter_22 : decode cX8_outputCharacter 22 = .ok (.invokespecial 309, 3) := by decide +kernel
theorem dX8_outputCharacter_25 : decode cX8_outputCharacter 25 = .ok (.athrow, 1) := by decide +kernel
theorem dX8_outputCharacter_26 : decode cX8_outputCharacter 26 = .ok (.aload_n 0, 1) := by decide +kernel
theorem dX8_outputCharacter_27 : decode cX8_outputCharacter 27 = .ok (.getfield 54, 3) := by decide +kernel
theorem dX8_outputCharacter_30 : decode cX8_outputCharacter 30 = .ok (.iload_n 1, 1) := by decide +kernel
theorem dX8_outputCharacter_31 : decode cX8_outputCharacter 31 = .ok (.invokevirtual 310, 3) := by decide +kernel
theorem dX8_outputCharacter_34 : decode cX8_outputCharacter 34 = .ok (.ireturn, 1) := by decide +kernel
theorem dX8_isConsistent_0 : decode cX8_isConsistent 0 = .ok (.aload_n 0, 1) := by decide +kernel
theorem dX8_isConsistent_1 : decode cX8_isConsistent 1 = .ok (.getfield 10, 3) := by decide +kernel
theorem dX8_isConsistent_4 : decode cX8_isConsistent 4 = .ok (.getfield 64, 3) := by decide +kernel
theorem dX8_isConsistent_7 : decode cX8_isConsistent 7 = .ok (.invokevirtual 149, 3) := by decide +kernel
theorem dX8_isConsistent_10 : decode cX8_isConsistent 10 = .ok (.aload_n 0, 1) := by decide +kernel
theorem dX8_isConsistent_11 : decode cX8_isConsistent 11 = .ok (.getfield 40, 3) := by decide +kernel
theorem dX8_isConsistent_14 : decode cX8_isConsistent 14 = .ok (.aload_n 0, 1) := by decide +kernel
theorem dX8_isConsistent_15 : decode cX8_isConsistent 15 = .ok (.getfield 10, 3) := by decide +kernel
theorem dX8_isConsistent_18 : decode cX8_isConsistent 18 = .ok (.getfield 64, 3) := by decide +kernel
theorem dX8_isConsistent_21 : decode cX8_isConsistent 21 = .ok (.invokevirtual 152, 3) := by decide +kernel
theorem dX8_isConsistent_24 : decode cX8_isConsistent 24 = .ok (.if_icmp .eq 5, 3) := by decide +kernel
theorem dX8_isConsistent_27 : decode cX8_isConsistent 27 = .ok (.iconst 0, 1) := by decide +kernel
theorem dX8_isConsistent_28 : decode cX8_isConsistent 28 = .ok (.ireturn, 1) := by decide +kernel
theorem dX8_isConsistent_29 : decode cX8_isConsistent 29 = .ok (.aload_n 0, 1) := by decide +kernel
theorem dX8_isConsistent_30 : decode cX8_isConsistent 30 = .ok (.getfield 16, 3) := by decide +kernel
theorem dX8_isConsistent_33 : decode cX8_isConsistent 33 = .ok (.aload_n 0, 1) := by decide +kernel
theorem dX8_isConsistent_34 : decode cX8_isConsistent 34 = .ok (.getfield 10, 3) := by decide +kernel
theorem dX8_isConsistent_37 : decode cX8_isConsistent 37 = .ok (.invokevirtual 277, 3) := by decide +kernel
theorem dX8_isConsistent_40 : decode cX8_isConsistent 40 = .ok (.iconst 0, 1) := by decide +kernel
theorem dX8_isConsistent_41 : decode cX8_isConsistent 41 = .ok (.istore_n 1, 1) := by decide +kernel
theorem dX8_isConsistent_42 : decode cX8_isConsistent 42 = .ok (.iload_n 1, 1) := by decide +kernel
theorem dX8_isConsistent_43 : decode cX8_isConsistent 43 = .ok (.bipush 40, 2) := by decide +kernel
theorem dX8_isConsistent_45 : decode cX8_isConsistent 45 = .ok (.if_icmp .gt 40, 3) := by decide +kernel
theorem dX8_isConsistent_48 : decode cX8_isConsistent 48 = .ok (.aload_n 0, 1) := by decide +kernel
theorem dX8_isConsistent_49 : decode cX8_isConsistent 49 = .ok (.getfield 16, 3) := by decide +kernel
theorem dX8_isConsistent_52 : decode cX8_isConsistent 52 = .ok (.getfield 64, 3) := by decide +kernel
theorem dX8_isConsistent_55 : decode cX8_isConsistent 55 = .ok (.invokevirtual 110, 3) := by decide +kernel
theorem dX8_isConsistent_58 : decode cX8_isConsistent 58 = .ok (.aload_n 0, 1) := by decide +kernel
theorem dX8_isConsistent_59 : decode cX8_isConsistent 59 = .ok (.getfield 10, 3) := by decide +kernel
theorem dX8_isConsistent_62 : decode cX8_isConsistent 62 = .ok (.iload_n 1, 1) := by decide +kernel
theorem dX8_isConsistent_63 : decode cX8_isConsistent 63 = .ok (.invokevirtual 281, 3) := by decide +kernel
theorem dX8_isConsistent_66 : decode cX8_isConsistent 66 = .ok (.if_icmp .eq 5, 3) := by decide +kernel
theorem dX8_isConsistent_69 : decode cX8_isConsistent 69 = .ok (.iconst 0, 1) := by decide +kernel
theorem dX8_isConsistent_70 : decode cX8_isConsistent 70 = .ok (.ireturn, 1) := by decide +kernel
theorem dX8_isConsistent_71 : decode cX8_isConsistent 71 = .ok (.aload_n 0, 1) := by decide +kernel
theorem dX8_isConsistent_72 : decode cX8_isConsistent 72 = .ok (.getfield 16, 3) := by decide +kernel
theorem dX8_isConsistent_75 : decode cX8_isConsistent 75 = .ok (.invokevirtual 284, 3) := by decide +kernel
theorem dX8_isConsistent_78 : decode cX8_isConsistent 78 = .ok (.pop, 1) := by decide +kernel
theorem dX8_isConsistent_79 : decode cX8_isConsistent 79 = .ok (.iinc 1 1, 3) := by decide +kernel
theorem dX8_isConsistent_82 : decode cX8_isConsistent 82 = .ok (.goto (-40), 3) := by decide +kernel
theorem dX8_isConsistent_85 : decode cX8_isConsistent 85 = .ok (.iconst 1, 1) := by decide +kernel
theorem dX8_isConsistent_86 : decode cX8_isConsistent 86 = .ok (.ireturn, 1) := by decide +kernel
theorem dX8_feed_0 : decode cX8_feed 0 = .ok (.aload_n 0, 1) := by decide +kernel
theorem dX8_feed_1 : decode cX8_feed 1 = .ok (.getfield 47, 3) := by decide +kernel
theorem dX8_feed_4 : decode cX8_feed 4 = .ok (.invokevirtual 314, 3) := by decide +kernel
theorem dX8_feed_7 : decode cX8_feed 7 = .ok (.ifCond .eq 14, 3) := by decide +kernel
theorem dX8_feed_10 : decode cX8_feed 10 = .ok (.new 318, 3) := by decide +kernel
theorem dX8_feed_13 : decode cX8_feed 13 = .ok (.dup, 1) := by decide +kernel
theorem dX8_feed_14 : decode cX8_feed 14 = .ok (.ldc_w 320, 3) := by decide +kernel
theorem dX8_feed_17 : decode cX8_feed 17 = .ok (.invokespecial 322, 3) := by decide +kernel
theorem dX8_feed_20 : decode cX8_feed 20 = .ok (.athrow, 1) := by decide +kernel
theorem dX8_feed_21 : decode cX8_feed 21 = .ok (.aload_n 0, 1) := by decide +kernel
theorem dX8_feed_22 : decode cX8_feed 22 = .ok (.getfield 47, 3) := by decide +kernel
theorem dX8_feed_25 : decode cX8_feed 25 = .ok (.iload_n 1, 1) := by decide +kernel
theorem dX8_feed_26 : decode cX8_feed 26 = .ok (.invokevirtual 323, 3) := by decide +kernel
theorem dX8_feed_29 : decode cX8_feed 29 = .ok (.ireturn, 1) := by decide +kernel
theorem dX8_execute_0 : decode cX8_execute 0 = .ok (.aload_n 0, 1) := by decide +kernel
theorem dX8_execute_1 : decode cX8_execute 1 = .ok (.getfield 47, 3) := by decide +kernel
theorem dX8_execute_4 : decode cX8_execute 4 = .ok (.invokevirtual 326, 3) := by decide +kernel
theorem dX8_execute_7 : decode cX8_execute 7 = .ok (.istore_n 1, 1) := by decide +kernel
theorem dX8_execute_8 : decode cX8_execute 8 = .ok (.iload_n 1, 1) := by decide +kernel
theorem dX8_execute_9 : decode cX8_execute 9 = .ok (.iconst (-1), 1) := by decide +kernel
theorem dX8_execute_10 : decode cX8_execute 10 = .ok (.if_icmp .eq 27, 3) := by decide +kernel
theorem dX8_execute_13 : decode cX8_execute 13 = .ok (.aload_n 0, 1) := by decide +kernel
theorem dX8_execute_14 : decode cX8_execute 14 = .ok (.getfield 47, 3) := by decide +kernel
theorem dX8_execute_17 : decode cX8_execute 17 = .ok (.iconst 0, 1) := by decide +kernel
theorem dX8_execute_18 : decode cX8_execute 18 = .ok (.putfield 329, 3) := by decide +kernel
theorem dX8_execute_21 : decode cX8_execute 21 = .ok (.aload_n 0, 1) := by decide +kernel
theorem dX8_execute_22 : decode cX8_execute 22 = .ok (.iload_n 1, 1) := by decide +kernel
theorem dX8_execute_23 : decode cX8_execute 23 = .ok (.putfield 58, 3) := by decide +kernel
theorem dX8_execute_26 : decode cX8_execute 26 = .ok (.new 331, 3) := by decide +kernel
theorem dX8_execute_29 : decode cX8_execute 29 = .ok (.dup, 1) := by decide +kernel
theorem dX8_execute_30 : decode cX8_execute 30 = .ok (.ldc_w 333, 3) := by decide +kernel
theorem dX8_execute_33 : decode cX8_execute 33 = .ok (.invokespecial 335, 3) := by decide +kernel
theorem dX8_execute_36 : decode cX8_execute 36 = .ok (.athrow, 1) := by decide +kernel
theorem dX8_execute_37 : decode cX8_execute 37 = .ok (.aload_n 0, 1) := by decide +kernel
theorem dX8_execute_38 : decode cX8_execute 38 = .ok (.getfield 16, 3) := by decide +kernel
theorem dX8_execute_41 : decode cX8_execute 41 = .ok (.aload_n 0, 1) := by decide +kernel
theorem dX8_execute_42 : decode cX8_execute 42 = .ok (.getfield 10, 3) := by decide +kernel
theorem dX8_execute_45 : decode cX8_execute 45 = .ok (.invokevirtual 277, 3) := by decide +kernel
theorem dX8_execute_48 : decode cX8_execute 48 = .ok (.aload_n 0, 1) := by decide +kernel
theorem dX8_execute_49 : decode cX8_execute 49 = .ok (.invokevirtual 336, 3) := by decide +kernel
theorem dX8_execute_52 : decode cX8_execute 52 = .ok (.istore_n 2, 1) := by decide +kernel
theorem dX8_execute_53 : decode cX8_execute 53 = .ok (.aload_n 0, 1) := by decide +kernel
theorem dX8_execute_54 : decode cX8_execute 54 = .ok (.getfield 47, 3) := by decide +kernel
theorem dX8_execute_57 : decode cX8_execute 57 = .ok (.iconst 0, 1) := by decide +kernel
theorem dX8_execute_58 : decode cX8_execute 58 = .ok (.putfield 329, 3) := by decide +kernel
theorem dX8_execute_61 : decode cX8_execute 61 = .ok (.iload_n 2, 1) := by decide +kernel
theorem dX8_execute_62 : decode cX8_execute 62 = .ok (.aload_n 0, 1) := by decide +kernel
theorem dX8_execute_63 : decode cX8_execute 63 = .ok (.getfield 47, 3) := by decide +kernel
theorem dX8_execute_66 : decode cX8_execute 66 = .ok (.getfield 339, 3) := by decide +kernel
theorem dX8_execute_69 : decode cX8_execute 69 = .ok (.if_icmp .ge 19, 3) := by decide +kernel
theorem dX8_execute_72 : decode cX8_execute 72 = .ok (.aload_n 0, 1) := by decide +kernel
theorem dX8_execute_73 : decode cX8_execute 73 = .ok (.iload_n 2, 1) := by decide +kernel
theorem dX8_execute_74 : decode cX8_execute 74 = .ok (.putfield 61, 3) := by decide +kernel
theorem dX8_execute_77 : decode cX8_execute 77 = .ok (.new 342, 3) := by decide +kernel
theorem dX8_execute_80 : decode cX8_execute 80 = .ok (.dup, 1) := by decide +kernel
theorem dX8_execute_81 : decode cX8_execute 81 = .ok (.ldc_w 344, 3) := by decide +kernel
theorem dX8_execute_84 : decode cX8_execute 84 = .ok (.invokespecial 346, 3) := by decide +kernel
theorem dX8_execute_87 : decode cX8_execute 87 = .ok (.athrow, 1) := by decide +kernel
theorem dX8_execute_88 : decode cX8_execute 88 = .ok (.aload_n 0, 1) := by decide +kernel
theorem dX8_execute_89 : decode cX8_execute 89 = .ok (.invokevirtual 78, 3) := by decide +kernel
theorem dX8_execute_92 : decode cX8_execute 92 = .ok (.aload_n 0, 1) := by decide +kernel
theorem dX8_execute_93 : decode cX8_execute 93 = .ok (.getfield 10, 3) := by decide +kernel
theorem dX8_execute_96 : decode cX8_execute 96 = .ok (.aload_n 0, 1) := by decide +kernel
theorem dX8_execute_97 : decode cX8_execute 97 = .ok (.getfield 16, 3) := by decide +kernel
theorem dX8_execute_100 : decode cX8_execute 100 = .ok (.invokevirtual 277, 3) := by decide +kernel
theorem dX8_execute_103 : decode cX8_execute 103 = .ok (.iload_n 2, 1) := by decide +kernel
theorem dX8_execute_104 : decode cX8_execute 104 = .ok (.ireturn, 1) := by decide +kernel
theorem dX8_undo_0 : decode cX8_undo 0 = .ok (.aload_n 0, 1) := by decide +kernel
theorem dX8_undo_1 : decode cX8_undo 1 = .ok (.getfield 34, 3) := by decide +kernel
theorem dX8_undo_4 : decode cX8_undo 4 = .ok (.ifCond .ne 14, 3) := by decide +kernel
theorem dX8_undo_7 : decode cX8_undo 7 = .ok (.new 318, 3) := by decide +kernel
theorem dX8_undo_10 : decode cX8_undo 10 = .ok (.dup, 1) := by decide +kernel
theorem dX8_undo_11 : decode cX8_undo 11 = .ok (.ldc_w 351, 3) := by decide +kernel
theorem dX8_undo_14 : decode cX8_undo 14 = .ok (.invokespecial 322, 3) := by decide +kernel
theorem dX8_undo_17 : decode cX8_undo 17 = .ok (.athrow, 1) := by decide +kernel
theorem dX8_undo_18 : decode cX8_undo 18 = .ok (.aload_n 0, 1) := by decide +kernel
theorem dX8_undo_19 : decode cX8_undo 19 = .ok (.aload_n 0, 1) := by decide +kernel
theorem dX8_undo_20 : decode cX8_undo 20 = .ok (.getfield 30, 3) := by decide +kernel
theorem dX8_undo_23 : decode cX8_undo 23 = .ok (.ifCond .ne 8, 3) := by decide +kernel
theorem dX8_undo_26 : decode cX8_undo 26 = .ok (.bipush 7, 2) := by decide +kernel
theorem dX8_undo_28 : decode cX8_undo 28 = .ok (.goto 9, 3) := by decide +kernel
theorem dX8_undo_31 : decode cX8_undo 31 = .ok (.aload_n 0, 1) := by decide +kernel
theorem dX8_undo_32 : decode cX8_undo 32 = .ok (.getfield 30, 3) := by decide +kernel
theorem dX8_undo_35 : decode cX8_undo 35 = .ok (.iconst 1, 1) := by decide +kernel
theorem dX8_undo_36 : decode cX8_undo 36 = .ok (.isub, 1) := by decide +kernel
theorem dX8_undo_37 : decode cX8_undo 37 = .ok (.putfield 30, 3) := by decide +kernel
theorem dX8_undo_40 : decode cX8_undo 40 = .ok (.aload_n 0, 1) := by decide +kernel
theorem dX8_undo_41 : decode cX8_undo 41 = .ok (.dup, 1) := by decide +kernel
theorem dX8_undo_42 : decode cX8_undo 42 = .ok (.getfield 34, 3) := by decide +kernel
theorem dX8_undo_45 : decode cX8_undo 45 = .ok (.iconst 1, 1) := by decide +kernel
theorem dX8_undo_46 : decode cX8_undo 46 = .ok (.isub, 1) := by decide +kernel
theorem dX8_undo_47 : decode cX8_undo 47 = .ok (.putfield 34, 3) := by decide +kernel
theorem dX8_undo_50 : decode cX8_undo 50 = .ok (.aload_n 0, 1) := by decide +kernel
theorem dX8_undo_51 : decode cX8_undo 51 = .ok (.getfield 10, 3) := by decide +kernel
theorem dX8_undo_54 : decode cX8_undo 54 = .ok (.aload_n 0, 1) := by decide +kernel
theorem dX8_undo_55 : decode cX8_undo 55 = .ok (.getfield 26, 3) := by decide +kernel
theorem dX8_undo_58 : decode cX8_undo 58 = .ok (.aload_n 0, 1) := by decide +kernel
theorem dX8_undo_59 : decode cX8_undo 59 = .ok (.getfield 30, 3) := by decide +kernel
theorem dX8_undo_62 : decode cX8_undo 62 = .ok (.aaload, 1) := by decide +kernel
theorem dX8_undo_63 : decode cX8_undo 63 = .ok (.invokevirtual 277, 3) := by decide +kernel
theorem dX8_undo_66 : decode cX8_undo 66 = .ok (.aload_n 0, 1) := by decide +kernel
theorem dX8_undo_67 : decode cX8_undo 67 = .ok (.getfield 34, 3) := by decide +kernel
theorem dX8_undo_70 : decode cX8_undo 70 = .ok (.ireturn, 1) := by decide +kernel
theorem dX8_undoCount_0 : decode cX8_undoCount 0 = .ok (.aload_n 0, 1) := by decide +kernel
theorem dX8_undoCount_1 : decode cX8_undoCount 1 = .ok (.getfield 34, 3) := by decide +kernel
theorem dX8_undoCount_4 : decode cX8_undoCount 4 = .ok (.ireturn, 1) := by decide +kernel
theorem dX8_save_0 : decode cX8_save 0 = .ok (.aload_n 0, 1) := by decide +kernel
theorem dX8_save_1 : decode cX8_save 1 = .ok (.getfield 19, 3) := by decide +kernel
theorem dX8_save_4 : decode cX8_save 4 = .ok (.aload_n 0, 1) := by decide +kernel
theorem dX8_save_5 : decode cX8_save 5 = .ok (.getfield 10, 3) := by decide +kernel
theorem dX8_save_8 : decode cX8_save 8 = .ok (.invokevirtual 277, 3) := by decide +kernel
theorem dX8_save_11 : decode cX8_save 11 = .ok (.aload_n 0, 1) := by decide +kernel
theorem dX8_save_12 : decode cX8_save 12 = .ok (.iconst 1, 1) := by decide +kernel
theorem dX8_save_13 : decode cX8_save 13 = .ok (.putfield 22, 3) := by decide +kernel
theorem dX8_save_16 : decode cX8_save 16 = .ok (.aload_n 0, 1) := by decide +kernel
theorem dX8_save_17 : decode cX8_save 17 = .ok (.getfield 10, 3) := by decide +kernel
theorem dX8_save_20 : decode cX8_save 20 = .ok (.getfield 64, 3) := by decide +kernel
theorem dX8_save_23 : decode cX8_save 23 = .ok (.getfield 100, 3) := by decide +kernel
theorem dX8_save_26 : decode cX8_save 26 = .ok (.ireturn, 1) := by decide +kernel
theorem dX8_restore_0 : decode cX8_restore 0 = .ok (.aload_n 0, 1) := by decide +kernel
theorem dX8_restore_1 : decode cX8_restore 1 = .ok (.getfield 22, 3) := by decide +kernel
theorem dX8_restore_4 : decode cX8_restore 4 = .ok (.ifCond .ne 14, 3) := by decide +kernel
theorem dX8_restore_7 : decode cX8_restore 7 = .ok (.new 318, 3) := by decide +kernel
theorem dX8_restore_10 : decode cX8_restore 10 = .ok (.dup, 1) := by decide +kernel
theorem dX8_restore_11 : decode cX8_restore 11 = .ok (.ldc_w 353, 3) := by decide +kernel
theorem dX8_restore_14 : decode cX8_restore 14 = .ok (.invokespecial 322, 3) := by decide +kernel
theorem dX8_restore_17 : decode cX8_restore 17 = .ok (.athrow, 1) := by decide +kernel
theorem dX8_restore_18 : decode cX8_restore 18 = .ok (.aload_n 0, 1) := by decide +kernel
theorem dX8_restore_19 : decode cX8_restore 19 = .ok (.getfield 10, 3) := by decide +kernel
theorem dX8_restore_22 : decode cX8_restore 22 = .ok (.aload_n 0, 1) := by decide +kernel
theorem dX8_restore_23 : decode cX8_restore 23 = .ok (.getfield 19, 3) := by decide +kernel
theorem dX8_restore_26 : decode cX8_restore 26 = .ok (.invokevirtual 277, 3) := by decide +kernel
theorem dX8_restore_29 : decode cX8_restore 29 = .ok (.aload_n 0, 1) := by decide +kernel
theorem dX8_restore_30 : decode cX8_restore 30 = .ok (.iconst 0, 1) := by decide +kernel
theorem dX8_restore_31 : decode cX8_restore 31 = .ok (.putfield 34, 3) := by decide +kernel
theorem dX8_restore_34 : decode cX8_restore 34 = .ok (.aload_n 0, 1) := by decide +kernel
theorem dX8_restore_35 : decode cX8_restore 35 = .ok (.getfield 10, 3) := by decide +kernel
theorem dX8_restore_38 : decode cX8_restore 38 = .ok (.getfield 64, 3) := by decide +kernel
theorem dX8_restore_41 : decode cX8_restore 41 = .ok (.getfield 100, 3) := by decide +kernel
theorem dX8_restore_44 : decode cX8_restore 44 = .ok (.ireturn, 1) := by decide +kernel
theorem dX8_remember_0 : decode cX8_remember 0 = .ok (.aload_n 0, 1) := by decide +kernel
theorem dX8_remember_1 : decode cX8_remember 1 = .ok (.getfield 26, 3) := by decide +kernel
theorem dX8_remember_4 : decode cX8_remember 4 = .ok (.aload_n 0, 1) := by decide +kernel
theorem dX8_remember_5 : decode cX8_remember 5 = .ok (.getfield 30, 3) := by decide +kernel
theorem dX8_remember_8 : decode cX8_remember 8 = .ok (.aaload, 1) := by decide +kernel
theorem dX8_remember_9 : decode cX8_remember 9 = .ok (.aload_n 0, 1) := by decide +kernel
theorem dX8_remember_10 : decode cX8_remember 10 = .ok (.getfield 10, 3) := by decide +kernel
theorem dX8_remember_13 : decode cX8_remember 13 = .ok (.invokevirtual 277, 3) := by decide +kernel
theorem dX8_remember_16 : decode cX8_remember 16 = .ok (.aload_n 0, 1) := by decide +kernel
theorem dX8_remember_17 : decode cX8_remember 17 = .ok (.aload_n 0, 1) := by decide +kernel
theorem dX8_remember_18 : decode cX8_remember 18 = .ok (.getfield 30, 3) := by decide +kernel
theorem dX8_remember_21 : decode cX8_remember 21 = .ok (.bipush 7, 2) := by decide +kernel
theorem dX8_remember_23 : decode cX8_remember 23 = .ok (.if_icmp .ne 7, 3) := by decide +kernel
theorem dX8_remember_26 : decode cX8_remember 26 = .ok (.iconst 0, 1) := by decide +kernel
theorem dX8_remember_27 : decode cX8_remember 27 = .ok (.goto 9, 3) := by decide +kernel
theorem dX8_remember_30 : decode cX8_remember 30 = .ok (.aload_n 0, 1) := by decide +kernel
theorem dX8_remember_31 : decode cX8_remember 31 = .ok (.getfield 30, 3) := by decide +kernel
theorem dX8_remember_34 : decode cX8_remember 34 = .ok (.iconst 1, 1) := by decide +kernel
theorem dX8_remember_35 : decode cX8_remember 35 = .ok (.iadd, 1) := by decide +kernel
theorem dX8_remember_36 : decode cX8_remember 36 = .ok (.putfield 30, 3) := by decide +kernel
theorem dX8_remember_39 : decode cX8_remember 39 = .ok (.aload_n 0, 1) := by decide +kernel
theorem dX8_remember_40 : decode cX8_remember 40 = .ok (.aload_n 0, 1) := by decide +kernel
theorem dX8_remember_41 : decode cX8_remember 41 = .ok (.getfield 34, 3) := by decide +kernel
theorem dX8_remember_44 : decode cX8_remember 44 = .ok (.iconst 1, 1) := by decide +kernel
theorem dX8_remember_45 : decode cX8_remember 45 = .ok (.iadd, 1) := by decide +kernel
theorem dX8_remember_46 : decode cX8_remember 46 = .ok (.bipush 8, 2) := by decide +kernel
theorem dX8_remember_48 : decode cX8_remember 48 = .ok (.invokestatic 355, 3) := by decide +kernel
theorem dX8_remember_51 : decode cX8_remember 51 = .ok (.putfield 34, 3) := by decide +kernel
theorem dX8_remember_54 : decode cX8_remember 54 = .ok (.return_, 1) := by decide +kernel
theorem dX8_refuse_0 : decode cX8_refuse 0 = .ok (.getstatic 360, 3) := by decide +kernel
theorem dX8_refuse_3 : decode cX8_refuse 3 = .ok (.aload_n 0, 1) := by decide +kernel
theorem dX8_refuse_4 : decode cX8_refuse 4 = .ok (.invokevirtual 365, 3) := by decide +kernel
theorem dX8_refuse_7 : decode cX8_refuse 7 = .ok (.iaload, 1) := by decide +kernel
theorem dX8_refuse_8 : decode cX8_refuse 8 = .ok (.tableswitch 76 1 4 #[32, 43, 54, 65], 32) := by decide +kernel
theorem dX8_refuse_40 : decode cX8_refuse 40 = .ok (.new 305, 3) := by decide +kernel
theorem dX8_refuse_43 : decode cX8_refuse 43 = .ok (.dup, 1) := by decide +kernel
theorem dX8_refuse_44 : decode cX8_refuse 44 = .ok (.ldc_w 370, 3) := by decide +kernel
theorem dX8_refuse_47 : decode cX8_refuse 47 = .ok (.invokespecial 309, 3) := by decide +kernel
theorem dX8_refuse_50 : decode cX8_refuse 50 = .ok (.athrow, 1) := by decide +kernel
theorem dX8_refuse_51 : decode cX8_refuse 51 = .ok (.new 331, 3) := by decide +kernel
theorem dX8_refuse_54 : decode cX8_refuse 54 = .ok (.dup, 1) := by decide +kernel
theorem dX8_refuse_55 : decode cX8_refuse 55 = .ok (.ldc_w 372, 3) := by decide +kernel
theorem dX8_refuse_58 : decode cX8_refuse 58 = .ok (.invokespecial 335, 3) := by decide +kernel
theorem dX8_refuse_61 : decode cX8_refuse 61 = .ok (.athrow, 1) := by decide +kernel
theorem dX8_refuse_62 : decode cX8_refuse 62 = .ok (.new 342, 3) := by decide +kernel
theorem dX8_refuse_65 : decode cX8_refuse 65 = .ok (.dup, 1) := by decide +kernel
theorem dX8_refuse_66 : decode cX8_refuse 66 = .ok (.ldc_w 374, 3) := by decide +kernel
theorem dX8_refuse_69 : decode cX8_refuse 69 = .ok (.invokespecial 346, 3) := by decide +kernel
theorem dX8_refuse_72 : decode cX8_refuse 72 = .ok (.athrow, 1) := by decide +kernel
theorem dX8_refuse_73 : decode cX8_refuse 73 = .ok (.new 318, 3) := by decide +kernel
theorem dX8_refuse_76 : decode cX8_refuse 76 = .ok (.dup, 1) := by decide +kernel
theorem dX8_refuse_77 : decode cX8_refuse 77 = .ok (.ldc_w 376, 3) := by decide +kernel
theorem dX8_refuse_80 : decode cX8_refuse 80 = .ok (.invokespecial 322, 3) := by decide +kernel
theorem dX8_refuse_83 : decode cX8_refuse 83 = .ok (.athrow, 1) := by decide +kernel
theorem dX8_refuse_84 : decode cX8_refuse 84 = .ok (.return_, 1) := by decide +kernel
theorem dX8_requireJet_0 : decode cX8_requireJet 0 = .ok (.aload_n 0, 1) := by decide +kernel
theorem dX8_requireJet_1 : decode cX8_requireJet 1 = .ok (.getfield 10, 3) := by decide +kernel
theorem dX8_requireJet_4 : decode cX8_requireJet 4 = .ok (.getfield 64, 3) := by decide +kernel
theorem dX8_requireJet_7 : decode cX8_requireJet 7 = .ok (.iload_n 1, 1) := by decide +kernel
theorem dX8_requireJet_8 : decode cX8_requireJet 8 = .ok (.invokevirtual 133, 3) := by decide +kernel
theorem dX8_requireJet_11 : decode cX8_requireJet 11 = .ok (.ifCond .ne 14, 3) := by decide +kernel
theorem dX8_requireJet_14 : decode cX8_requireJet 14 = .ok (.new 305, 3) := by decide +kernel
theorem dX8_requireJet_17 : decode cX8_requireJet 17 = .ok (.dup, 1) := by decide +kernel
theorem dX8_requireJet_18 : decode cX8_requireJet 18 = .ok (.ldc_w 378, 3) := by decide +kernel
theorem dX8_requireJet_21 : decode cX8_requireJet 21 = .ok (.invokespecial 309, 3) := by decide +kernel
theorem dX8_requireJet_24 : decode cX8_requireJet 24 = .ok (.athrow, 1) := by decide +kernel
theorem dX8_requireJet_25 : decode cX8_requireJet 25 = .ok (.return_, 1) := by decide +kernel
theorem dX8_requireAnyJet_0 : decode cX8_requireAnyJet 0 = .ok (.aload_n 0, 1) := by decide +kernel
theorem dX8_requireAnyJet_1 : decode cX8_requireAnyJet 1 = .ok (.getfield 10, 3) := by decide +kernel
theorem dX8_requireAnyJet_4 : decode cX8_requireAnyJet 4 = .ok (.getfield 64, 3) := by decide +kernel
theorem dX8_requireAnyJet_7 : decode cX8_requireAnyJet 7 = .ok (.getfield 100, 3) := by decide +kernel
theorem dX8_requireAnyJet_10 : decode cX8_requireAnyJet 10 = .ok (.ifCond .ne 14, 3) := by decide +kernel
theorem dX8_requireAnyJet_13 : decode cX8_requireAnyJet 13 = .ok (.new 136, 3) := by decide +kernel
theorem dX8_requireAnyJet_16 : decode cX8_requireAnyJet 16 = .ok (.dup, 1) := by decide +kernel
theorem dX8_requireAnyJet_17 : decode cX8_requireAnyJet 17 = .ok (.ldc_w 291, 3) := by decide +kernel
theorem dX8_requireAnyJet_20 : decode cX8_requireAnyJet 20 = .ok (.invokespecial 140, 3) := by decide +kernel
theorem dX8_requireAnyJet_23 : decode cX8_requireAnyJet 23 = .ok (.athrow, 1) := by decide +kernel
theorem dX8_requireAnyJet_24 : decode cX8_requireAnyJet 24 = .ok (.return_, 1) := by decide +kernel
theorem dX8_requireFigure_0 : decode cX8_requireFigure 0 = .ok (.aload_n 0, 1) := by decide +kernel
theorem dX8_requireFigure_1 : decode cX8_requireFigure 1 = .ok (.getfield 10, 3) := by decide +kernel
theorem dX8_requireFigure_4 : decode cX8_requireFigure 4 = .ok (.getfield 187, 3) := by decide +kernel
theorem dX8_requireFigure_7 : decode cX8_requireFigure 7 = .ok (.iload_n 1, 1) := by decide +kernel
theorem dX8_requireFigure_8 : decode cX8_requireFigure 8 = .ok (.invokevirtual 380, 3) := by decide +kernel
theorem dX8_requireFigure_11 : decode cX8_requireFigure 11 = .ok (.ifCond .ne 14, 3) := by decide +kernel
theorem dX8_requireFigure_14 : decode cX8_requireFigure 14 = .ok (.new 305, 3) := by decide +kernel
theorem dX8_requireFigure_17 : decode cX8_requireFigure 17 = .ok (.dup, 1) := by decide +kernel
theorem dX8_requireFigure_18 : decode cX8_requireFigure 18 = .ok (.ldc_w 381, 3) := by decide +kernel
theorem dX8_requireFigure_21 : decode cX8_requireFigure 21 = .ok (.invokespecial 309, 3) := by decide +kernel
theorem dX8_requireFigure_24 : decode cX8_requireFigure 24 = .ok (.athrow, 1) := by decide +kernel
theorem dX8_requireFigure_25 : decode cX8_requireFigure 25 = .ok (.return_, 1) := by decide +kernel
theorem dX8_requireStep_0 : decode cX8_requireStep 0 = .ok (.aload_n 0, 1) := by decide +kernel
theorem dX8_requireStep_1 : decode cX8_requireStep 1 = .ok (.getfield 10, 3) := by decide +kernel
theorem dX8_requireStep_4 : decode cX8_requireStep 4 = .ok (.getfield 187, 3) := by decide +kernel
theorem dX8_requireStep_7 : decode cX8_requireStep 7 = .ok (.iload_n 1, 1) := by decide +kernel
theorem dX8_requireStep_8 : decode cX8_requireStep 8 = .ok (.iload_n 2, 1) := by decide +kernel
theorem dX8_requireStep_9 : decode cX8_requireStep 9 = .ok (.invokevirtual 383, 3) := by decide +kernel
theorem dX8_requireStep_12 : decode cX8_requireStep 12 = .ok (.ifCond .ne 14, 3) := by decide +kernel
theorem dX8_requireStep_15 : decode cX8_requireStep 15 = .ok (.new 305, 3) := by decide +kernel
theorem dX8_requireStep_18 : decode cX8_requireStep 18 = .ok (.dup, 1) := by decide +kernel
theorem dX8_requireStep_19 : decode cX8_requireStep 19 = .ok (.ldc_w 387, 3) := by decide +kernel
theorem dX8_requireStep_22 : decode cX8_requireStep 22 = .ok (.invokespecial 309, 3) := by decide +kernel
theorem dX8_requireStep_25 : decode cX8_requireStep 25 = .ok (.athrow, 1) := by decide +kernel
theorem dX8_requireStep_26 : decode cX8_requireStep 26 = .ok (.return_, 1) := by decide +kernel
theorem dX8_requireEntry_0 : decode cX8_requireEntry 0 = .ok (.iload_n 1, 1) := by decide +kernel
theorem dX8_requireEntry_1 : decode cX8_requireEntry 1 = .ok (.ifCond .lt 14, 3) := by decide +kernel
theorem dX8_requireEntry_4 : decode cX8_requireEntry 4 = .ok (.iload_n 1, 1) := by decide +kernel
theorem dX8_requireEntry_5 : decode cX8_requireEntry 5 = .ok (.aload_n 0, 1) := by decide +kernel
theorem dX8_requireEntry_6 : decode cX8_requireEntry 6 = .ok (.getfield 10, 3) := by decide +kernel
theorem dX8_requireEntry_9 : decode cX8_requireEntry 9 = .ok (.getfield 262, 3) := by decide +kernel
theorem dX8_requireEntry_12 : decode cX8_requireEntry 12 = .ok (.if_icmp .lt 14, 3) := by decide +kernel
theorem dX8_requireEntry_15 : decode cX8_requireEntry 15 = .ok (.new 305, 3) := by decide +kernel
theorem dX8_requireEntry_18 : decode cX8_requireEntry 18 = .ok (.dup, 1) := by decide +kernel
theorem dX8_requireEntry_19 : decode cX8_requireEntry 19 = .ok (.ldc_w 389, 3) := by decide +kernel
theorem dX8_requireEntry_22 : decode cX8_requireEntry 22 = .ok (.invokespecial 309, 3) := by decide +kernel
theorem dX8_requireEntry_25 : decode cX8_requireEntry 25 = .ok (.athrow, 1) := by decide +kernel
theorem dX8_requireEntry_26 : decode cX8_requireEntry 26 = .ok (.return_, 1) := by decide +kernel
theorem dX8_requireForecast_0 : decode cX8_requireForecast 0 = .ok (.iload_n 0, 1) := by decide +kernel
theorem dX8_requireForecast_1 : decode cX8_requireForecast 1 = .ok (.ifCond .lt 9, 3) := by decide +kernel
theorem dX8_requireForecast_4 : decode cX8_requireForecast 4 = .ok (.iload_n 0, 1) := by decide +kernel
theorem dX8_requireForecast_5 : decode cX8_requireForecast 5 = .ok (.bipush 40, 2) := by decide +kernel
theorem dX8_requireForecast_7 : decode cX8_requireForecast 7 = .ok (.if_icmp .le 14, 3) := by decide +kernel
theorem dX8_requireForecast_10 : decode cX8_requireForecast 10 = .ok (.new 331, 3) := by decide +kernel
theorem dX8_requireForecast_13 : decode cX8_requireForecast 13 = .ok (.dup, 1) := by decide +kernel
theorem dX8_requireForecast_14 : decode cX8_requireForecast 14 = .ok (.ldc_w 391, 3) := by decide +kernel
theorem dX8_requireForecast_17 : decode cX8_requireForecast 17 = .ok (.invokespecial 335, 3) := by decide +kernel
theorem dX8_requireForecast_20 : decode cX8_requireForecast 20 = .ok (.athrow, 1) := by decide +kernel
theorem dX8_requireForecast_21 : decode cX8_requireForecast 21 = .ok (.return_, 1) := by decide +kernel
theorem dX8_slot_0 : decode cX8_slot 0 = .ok (.iload_n 0, 1) := by decide +kernel
theorem dX8_slot_1 : decode cX8_slot 1 = .ok (.bipush 8, 2) := by decide +kernel
theorem dX8_slot_3 : decode cX8_slot 3 = .ok (.imul, 1) := by decide +kernel
theorem dX8_slot_4 : decode cX8_slot 4 = .ok (.iload_n 1, 1) := by decide +kernel
theorem dX8_slot_5 : decode cX8_slot 5 = .ok (.iadd, 1) := by decide +kernel
theorem dX8_slot_6 : decode cX8_slot 6 = .ok (.ireturn, 1) := by decide +kernel
theorem dX8_writeStep_0 : decode cX8_writeStep 0 = .ok (.aload_n 0, 1) := by decide +kernel
theorem dX8_writeStep_1 : decode cX8_writeStep 1 = .ok (.getfield 54, 3) := by decide +kernel
theorem dX8_writeStep_4 : decode cX8_writeStep 4 = .ok (.invokevirtual 302, 3) := by decide +kernel
theorem dX8_writeStep_7 : decode cX8_writeStep 7 = .ok (.ifCond .le 13, 3) := by decide +kernel
theorem dX8_writeStep_10 : decode cX8_writeStep 10 = .ok (.aload_n 0, 1) := by decide +kernel
theorem dX8_writeStep_11 : decode cX8_writeStep 11 = .ok (.getfield 54, 3) := by decide +kernel
theorem dX8_writeStep_14 : decode cX8_writeStep 14 = .ok (.bipush 32, 2) := by decide +kernel
theorem dX8_writeStep_16 : decode cX8_writeStep 16 = .ok (.invokevirtual 393, 3) := by decide +kernel
theorem dX8_writeStep_19 : decode cX8_writeStep 19 = .ok (.pop, 1) := by decide +kernel
theorem dX8_writeStep_20 : decode cX8_writeStep 20 = .ok (.aload_n 0, 1) := by decide +kernel
theorem dX8_writeStep_21 : decode cX8_writeStep 21 = .ok (.getfield 54, 3) := by decide +kernel
theorem dX8_writeStep_24 : decode cX8_writeStep 24 = .ok (.aload_n 0, 1) := by decide +kernel
theorem dX8_writeStep_25 : decode cX8_writeStep 25 = .ok (.getfield 10, 3) := by decide +kernel
theorem dX8_writeStep_28 : decode cX8_writeStep 28 = .ok (.getfield 187, 3) := by decide +kernel
theorem dX8_writeStep_31 : decode cX8_writeStep 31 = .ok (.getfield 226, 3) := by decide +kernel
theorem dX8_writeStep_34 : decode cX8_writeStep 34 = .ok (.iload_n 1, 1) := by decide +kernel
theorem dX8_writeStep_35 : decode cX8_writeStep 35 = .ok (.iaload, 1) := by decide +kernel
theorem dX8_writeStep_36 : decode cX8_writeStep 36 = .ok (.invokevirtual 396, 3) := by decide +kernel
theorem dX8_writeStep_39 : decode cX8_writeStep 39 = .ok (.bipush 58, 2) := by decide +kernel
theorem dX8_writeStep_41 : decode cX8_writeStep 41 = .ok (.invokevirtual 393, 3) := by decide +kernel
theorem dX8_writeStep_44 : decode cX8_writeStep 44 = .ok (.pop, 1) := by decide +kernel
theorem dX8_writeStep_45 : decode cX8_writeStep 45 = .ok (.aload_n 0, 1) := by decide +kernel
theorem dX8_writeStep_46 : decode cX8_writeStep 46 = .ok (.getfield 54, 3) := by decide +kernel
theorem dX8_writeStep_49 : decode cX8_writeStep 49 = .ok (.aload_n 0, 1) := by decide +kernel
theorem dX8_writeStep_50 : decode cX8_writeStep 50 = .ok (.getfield 10, 3) := by decide +kernel
theorem dX8_writeStep_53 : decode cX8_writeStep 53 = .ok (.getfield 187, 3) := by decide +kernel
theorem dX8_writeStep_56 : decode cX8_writeStep 56 = .ok (.getfield 232, 3) := by decide +kernel
theorem dX8_writeStep_59 : decode cX8_writeStep 59 = .ok (.iload_n 1, 1) := by decide +kernel
theorem dX8_writeStep_60 : decode cX8_writeStep 60 = .ok (.iaload, 1) := by decide +kernel
theorem dX8_writeStep_61 : decode cX8_writeStep 61 = .ok (.invokevirtual 396, 3) := by decide +kernel
theorem dX8_writeStep_64 : decode cX8_writeStep 64 = .ok (.bipush 61, 2) := by decide +kernel
theorem dX8_writeStep_66 : decode cX8_writeStep 66 = .ok (.invokevirtual 393, 3) := by decide +kernel
theorem dX8_writeStep_69 : decode cX8_writeStep 69 = .ok (.pop, 1) := by decide +kernel
theorem dX8_writeStep_70 : decode cX8_writeStep 70 = .ok (.aload_n 0, 1) := by decide +kernel
theorem dX8_writeStep_71 : decode cX8_writeStep 71 = .ok (.getfield 54, 3) := by decide +kernel
theorem dX8_writeStep_74 : decode cX8_writeStep 74 = .ok (.aload_n 0, 1) := by decide +kernel
theorem dX8_writeStep_75 : decode cX8_writeStep 75 = .ok (.getfield 10, 3) := by decide +kernel
theorem dX8_writeStep_78 : decode cX8_writeStep 78 = .ok (.getfield 187, 3) := by decide +kernel
theorem dX8_writeStep_81 : decode cX8_writeStep 81 = .ok (.getfield 234, 3) := by decide +kernel
theorem dX8_writeStep_84 : decode cX8_writeStep 84 = .ok (.iload_n 1, 1) := by decide +kernel
theorem dX8_writeStep_85 : decode cX8_writeStep 85 = .ok (.iaload, 1) := by decide +kernel
theorem dX8_writeStep_86 : decode cX8_writeStep 86 = .ok (.invokevirtual 396, 3) := by decide +kernel
theorem dX8_writeStep_89 : decode cX8_writeStep 89 = .ok (.pop, 1) := by decide +kernel
theorem dX8_writeStep_90 : decode cX8_writeStep 90 = .ok (.return_, 1) := by decide +kernel
theorem dX8_performUntilProblem_0 : decode cX8_performUntilProblem 0 = .ok (.aload_n 0, 1) := by decide +kernel
theorem dX8_performUntilProblem_1 : decode cX8_performUntilProblem 1 = .ok (.getfield 47, 3) := by decide +kernel
theorem dX8_performUntilProblem_4 : decode cX8_performUntilProblem 4 = .ok (.iconst 0, 1) := by decide +kernel
theorem dX8_performUntilProblem_5 : decode cX8_performUntilProblem 5 = .ok (.putfield 399, 3) := by decide +kernel
theorem dX8_performUntilProblem_8 : decode cX8_performUntilProblem 8 = .ok (.iconst 0, 1) := by decide +kernel
theorem dX8_performUntilProblem_9 : decode cX8_performUntilProblem 9 = .ok (.istore_n 1, 1) := by decide +kernel
theorem dX8_performUntilProblem_10 : decode cX8_performUntilProblem 10 = .ok (.iload_n 1, 1) := by decide +kernel
theorem dX8_performUntilProblem_11 : decode cX8_performUntilProblem 11 = .ok (.aload_n 0, 1) := by decide +kernel
theorem dX8_performUntilProblem_12 : decode cX8_performUntilProblem 12 = .ok (.getfield 47, 3) := by decide +kernel
theorem dX8_performUntilProblem_15 : decode cX8_performUntilProblem 15 = .ok (.getfield 339, 3) := by decide +kernel
theorem dX8_performUntilProblem_18 : decode cX8_performUntilProblem 18 = .ok (.if_icmp .ge 75, 3) := by decide +kernel
theorem dX8_performUntilProblem_21 : decode cX8_performUntilProblem 21 = .ok (.aload_n 0, 1) := by decide +kernel
theorem dX8_performUntilProblem_22 : decode cX8_performUntilProblem 22 = .ok (.getfield 47, 3) := by decide +kernel
theorem dX8_performUntilProblem_25 : decode cX8_performUntilProblem 25 = .ok (.invokevirtual 402, 3) := by decide +kernel
theorem dX8_performUntilProblem_28 : decode cX8_performUntilProblem 28 = .ok (.pop, 1) := by decide +kernel
theorem dX8_performUntilProblem_29 : decode cX8_performUntilProblem 29 = .ok (.aload_n 0, 1) := by decide +kernel
theorem dX8_performUntilProblem_30 : decode cX8_performUntilProblem 30 = .ok (.getfield 16, 3) := by decide +kernel
theorem dX8_performUntilProblem_33 : decode cX8_performUntilProblem 33 = .ok (.aload_n 0, 1) := by decide +kernel
theorem dX8_performUntilProblem_34 : decode cX8_performUntilProblem 34 = .ok (.getfield 47, 3) := by decide +kernel
theorem dX8_performUntilProblem_37 : decode cX8_performUntilProblem 37 = .ok (.getfield 405, 3) := by decide +kernel
theorem dX8_performUntilProblem_40 : decode cX8_performUntilProblem 40 = .ok (.aload_n 0, 1) := by decide +kernel
theorem dX8_performUntilProblem_41 : decode cX8_performUntilProblem 41 = .ok (.getfield 47, 3) := by decide +kernel
theorem dX8_performUntilProblem_44 : decode cX8_performUntilProblem 44 = .ok (.getfield 409, 3) := by decide +kernel
theorem dX8_performUntilProblem_47 : decode cX8_performUntilProblem 47 = .ok (.invokevirtual 412, 3) := by decide +kernel
theorem dX8_performUntilProblem_50 : decode cX8_performUntilProblem 50 = .ok (.getstatic 416, 3) := by decide +kernel
theorem dX8_performUntilProblem_53 : decode cX8_performUntilProblem 53 = .ok (.if_acmp .eq 5, 3) := by decide +kernel
theorem dX8_performUntilProblem_56 : decode cX8_performUntilProblem 56 = .ok (.iload_n 1, 1) := by decide +kernel
theorem dX8_performUntilProblem_57 : decode cX8_performUntilProblem 57 = .ok (.ireturn, 1) := by decide +kernel
theorem dX8_performUntilProblem_58 : decode cX8_performUntilProblem 58 = .ok (.aload_n 0, 1) := by decide +kernel
theorem dX8_performUntilProblem_59 : decode cX8_performUntilProblem 59 = .ok (.getfield 16, 3) := by decide +kernel
theorem dX8_performUntilProblem_62 : decode cX8_performUntilProblem 62 = .ok (.aload_n 0, 1) := by decide +kernel
theorem dX8_performUntilProblem_63 : decode cX8_performUntilProblem 63 = .ok (.getfield 47, 3) := by decide +kernel
theorem dX8_performUntilProblem_66 : decode cX8_performUntilProblem 66 = .ok (.getfield 405, 3) := by decide +kernel
theorem dX8_performUntilProblem_69 : decode cX8_performUntilProblem 69 = .ok (.aload_n 0, 1) := by decide +kernel
theorem dX8_performUntilProblem_70 : decode cX8_performUntilProblem 70 = .ok (.getfield 47, 3) := by decide +kernel
theorem dX8_performUntilProblem_73 : decode cX8_performUntilProblem 73 = .ok (.getfield 409, 3) := by decide +kernel
theorem dX8_performUntilProblem_76 : decode cX8_performUntilProblem 76 = .ok (.invokevirtual 420, 3) := by decide +kernel
theorem dX8_performUntilProblem_79 : decode cX8_performUntilProblem 79 = .ok (.aload_n 0, 1) := by decide +kernel
theorem dX8_performUntilProblem_80 : decode cX8_performUntilProblem 80 = .ok (.getfield 47, 3) := by decide +kernel
theorem dX8_performUntilProblem_83 : decode cX8_performUntilProblem 83 = .ok (.invokevirtual 424, 3) := by decide +kernel
theorem dX8_performUntilProblem_86 : decode cX8_performUntilProblem 86 = .ok (.pop, 1) := by decide +kernel
theorem dX8_performUntilProblem_87 : decode cX8_performUntilProblem 87 = .ok (.iinc 1 1, 3) := by decide +kernel
theorem dX8_performUntilProblem_90 : decode cX8_performUntilProblem 90 = .ok (.goto (-80), 3) := by decide +kernel
theorem dX8_performUntilProblem_93 : decode cX8_performUntilProblem 93 = .ok (.aload_n 0, 1) := by decide +kernel
theorem dX8_performUntilProblem_94 : decode cX8_performUntilProblem 94 = .ok (.getfield 47, 3) := by decide +kernel
theorem dX8_performUntilProblem_97 : decode cX8_performUntilProblem 97 = .ok (.getfield 339, 3) := by decide +kernel
theorem dX8_performUntilProblem_100 : decode cX8_performUntilProblem 100 = .ok (.ireturn, 1) := by decide +kernel
