theorem dL_addJet_0 : decode cL_addJet 0 = .ok (.aload_n 2, 1) := by decide +kernel
theorem dL_addJet_1 : decode cL_addJet 1 = .ok (.iconst 0, 1) := by decide +kernel
theorem dL_addJet_2 : decode cL_addJet 2 = .ok (.aload_n 0, 1) := by decide +kernel
theorem dL_addJet_3 : decode cL_addJet 3 = .ok (.iload_n 1, 1) := by decide +kernel
theorem dL_addJet_4 : decode cL_addJet 4 = .ok (.invokevirtual 7, 3) := by decide +kernel
theorem dL_addJet_7 : decode cL_addJet 7 = .ok (.i2l, 1) := by decide +kernel
theorem dL_addJet_8 : decode cL_addJet 8 = .ok (.lastore, 1) := by decide +kernel
theorem dL_addJet_9 : decode cL_addJet 9 = .ok (.goto 12, 3) := by decide +kernel
theorem dL_addJet_12 : decode cL_addJet 12 = .ok (.astore_n 3, 1) := by decide +kernel
theorem dL_addJet_13 : decode cL_addJet 13 = .ok (.iconst 1, 1) := by decide +kernel
theorem dL_addJet_14 : decode cL_addJet 14 = .ok (.ireturn, 1) := by decide +kernel
theorem dL_addJet_15 : decode cL_addJet 15 = .ok (.astore_n 3, 1) := by decide +kernel
theorem dL_addJet_16 : decode cL_addJet 16 = .ok (.iconst 2, 1) := by decide +kernel
theorem dL_addJet_17 : decode cL_addJet 17 = .ok (.ireturn, 1) := by decide +kernel
theorem dL_addJet_18 : decode cL_addJet 18 = .ok (.astore_n 3, 1) := by decide +kernel
theorem dL_addJet_19 : decode cL_addJet 19 = .ok (.iconst 3, 1) := by decide +kernel
theorem dL_addJet_20 : decode cL_addJet 20 = .ok (.ireturn, 1) := by decide +kernel
theorem dL_addJet_21 : decode cL_addJet 21 = .ok (.iconst 0, 1) := by decide +kernel
theorem dL_addJet_22 : decode cL_addJet 22 = .ok (.ireturn, 1) := by decide +kernel
theorem dL_removeJet_0 : decode cL_removeJet 0 = .ok (.aload_n 2, 1) := by decide +kernel
theorem dL_removeJet_1 : decode cL_removeJet 1 = .ok (.iconst 0, 1) := by decide +kernel
theorem dL_removeJet_2 : decode cL_removeJet 2 = .ok (.aload_n 0, 1) := by decide +kernel
theorem dL_removeJet_3 : decode cL_removeJet 3 = .ok (.iload_n 1, 1) := by decide +kernel
theorem dL_removeJet_4 : decode cL_removeJet 4 = .ok (.invokevirtual 19, 3) := by decide +kernel
theorem dL_removeJet_7 : decode cL_removeJet 7 = .ok (.i2l, 1) := by decide +kernel
theorem dL_removeJet_8 : decode cL_removeJet 8 = .ok (.lastore, 1) := by decide +kernel
theorem dL_removeJet_9 : decode cL_removeJet 9 = .ok (.goto 6, 3) := by decide +kernel
theorem dL_removeJet_12 : decode cL_removeJet 12 = .ok (.astore_n 3, 1) := by decide +kernel
theorem dL_removeJet_13 : decode cL_removeJet 13 = .ok (.iconst 1, 1) := by decide +kernel
theorem dL_removeJet_14 : decode cL_removeJet 14 = .ok (.ireturn, 1) := by decide +kernel
theorem dL_removeJet_15 : decode cL_removeJet 15 = .ok (.iconst 0, 1) := by decide +kernel
theorem dL_removeJet_16 : decode cL_removeJet 16 = .ok (.ireturn, 1) := by decide +kernel
theorem dL_setOpening_0 : decode cL_setOpening 0 = .ok (.aload_n 3, 1) := by decide +kernel
theorem dL_setOpening_1 : decode cL_setOpening 1 = .ok (.iconst 0, 1) := by decide +kernel
theorem dL_setOpening_2 : decode cL_setOpening 2 = .ok (.aload_n 0, 1) := by decide +kernel
theorem dL_setOpening_3 : decode cL_setOpening 3 = .ok (.iload_n 1, 1) := by decide +kernel
theorem dL_setOpening_4 : decode cL_setOpening 4 = .ok (.iload_n 2, 1) := by decide +kernel
theorem dL_setOpening_5 : decode cL_setOpening 5 = .ok (.invokevirtual 24, 3) := by decide +kernel
theorem dL_setOpening_8 : decode cL_setOpening 8 = .ok (.i2l, 1) := by decide +kernel
theorem dL_setOpening_9 : decode cL_setOpening 9 = .ok (.lastore, 1) := by decide +kernel
theorem dL_setOpening_10 : decode cL_setOpening 10 = .ok (.goto 11, 3) := by decide +kernel
theorem dL_setOpening_13 : decode cL_setOpening 13 = .ok (.astore 4, 2) := by decide +kernel
theorem dL_setOpening_15 : decode cL_setOpening 15 = .ok (.iconst 1, 1) := by decide +kernel
theorem dL_setOpening_16 : decode cL_setOpening 16 = .ok (.ireturn, 1) := by decide +kernel
theorem dL_setOpening_17 : decode cL_setOpening 17 = .ok (.astore 4, 2) := by decide +kernel
theorem dL_setOpening_19 : decode cL_setOpening 19 = .ok (.iconst 2, 1) := by decide +kernel
theorem dL_setOpening_20 : decode cL_setOpening 20 = .ok (.ireturn, 1) := by decide +kernel
theorem dL_setOpening_21 : decode cL_setOpening 21 = .ok (.iconst 0, 1) := by decide +kernel
theorem dL_setOpening_22 : decode cL_setOpening 22 = .ok (.ireturn, 1) := by decide +kernel
theorem dL_position_0 : decode cL_position 0 = .ok (.aload_n 2, 1) := by decide +kernel
theorem dL_position_1 : decode cL_position 1 = .ok (.iconst 0, 1) := by decide +kernel
theorem dL_position_2 : decode cL_position 2 = .ok (.aload_n 0, 1) := by decide +kernel
theorem dL_position_3 : decode cL_position 3 = .ok (.iload_n 1, 1) := by decide +kernel
theorem dL_position_4 : decode cL_position 4 = .ok (.invokevirtual 28, 3) := by decide +kernel
theorem dL_position_7 : decode cL_position 7 = .ok (.i2l, 1) := by decide +kernel
theorem dL_position_8 : decode cL_position 8 = .ok (.lastore, 1) := by decide +kernel
theorem dL_position_9 : decode cL_position 9 = .ok (.goto 6, 3) := by decide +kernel
theorem dL_position_12 : decode cL_position 12 = .ok (.astore_n 3, 1) := by decide +kernel
theorem dL_position_13 : decode cL_position 13 = .ok (.iconst 1, 1) := by decide +kernel
theorem dL_position_14 : decode cL_position 14 = .ok (.ireturn, 1) := by decide +kernel
theorem dL_position_15 : decode cL_position 15 = .ok (.iconst 0, 1) := by decide +kernel
theorem dL_position_16 : decode cL_position 16 = .ok (.ireturn, 1) := by decide +kernel
theorem dL_opening_0 : decode cL_opening 0 = .ok (.aload_n 2, 1) := by decide +kernel
theorem dL_opening_1 : decode cL_opening 1 = .ok (.iconst 0, 1) := by decide +kernel
theorem dL_opening_2 : decode cL_opening 2 = .ok (.aload_n 0, 1) := by decide +kernel
theorem dL_opening_3 : decode cL_opening 3 = .ok (.iload_n 1, 1) := by decide +kernel
theorem dL_opening_4 : decode cL_opening 4 = .ok (.invokevirtual 31, 3) := by decide +kernel
theorem dL_opening_7 : decode cL_opening 7 = .ok (.i2l, 1) := by decide +kernel
theorem dL_opening_8 : decode cL_opening 8 = .ok (.lastore, 1) := by decide +kernel
theorem dL_opening_9 : decode cL_opening 9 = .ok (.goto 6, 3) := by decide +kernel
theorem dL_opening_12 : decode cL_opening 12 = .ok (.astore_n 3, 1) := by decide +kernel
theorem dL_opening_13 : decode cL_opening 13 = .ok (.iconst 1, 1) := by decide +kernel
theorem dL_opening_14 : decode cL_opening 14 = .ok (.ireturn, 1) := by decide +kernel
theorem dL_opening_15 : decode cL_opening 15 = .ok (.iconst 0, 1) := by decide +kernel
theorem dL_opening_16 : decode cL_opening 16 = .ok (.ireturn, 1) := by decide +kernel
theorem dL_height_0 : decode cL_height 0 = .ok (.aload_n 2, 1) := by decide +kernel
theorem dL_height_1 : decode cL_height 1 = .ok (.iconst 0, 1) := by decide +kernel
theorem dL_height_2 : decode cL_height 2 = .ok (.aload_n 0, 1) := by decide +kernel
theorem dL_height_3 : decode cL_height 3 = .ok (.iload_n 1, 1) := by decide +kernel
theorem dL_height_4 : decode cL_height 4 = .ok (.invokevirtual 34, 3) := by decide +kernel
theorem dL_height_7 : decode cL_height 7 = .ok (.i2l, 1) := by decide +kernel
theorem dL_height_8 : decode cL_height 8 = .ok (.lastore, 1) := by decide +kernel
theorem dL_height_9 : decode cL_height 9 = .ok (.goto 6, 3) := by decide +kernel
theorem dL_height_12 : decode cL_height 12 = .ok (.astore_n 3, 1) := by decide +kernel
theorem dL_height_13 : decode cL_height 13 = .ok (.iconst 1, 1) := by decide +kernel
theorem dL_height_14 : decode cL_height 14 = .ok (.ireturn, 1) := by decide +kernel
theorem dL_height_15 : decode cL_height 15 = .ok (.iconst 0, 1) := by decide +kernel
theorem dL_height_16 : decode cL_height 16 = .ok (.ireturn, 1) := by decide +kernel
theorem dL_landing_0 : decode cL_landing 0 = .ok (.aload_n 2, 1) := by decide +kernel
theorem dL_landing_1 : decode cL_landing 1 = .ok (.iconst 0, 1) := by decide +kernel
theorem dL_landing_2 : decode cL_landing 2 = .ok (.aload_n 0, 1) := by decide +kernel
theorem dL_landing_3 : decode cL_landing 3 = .ok (.iload_n 1, 1) := by decide +kernel
theorem dL_landing_4 : decode cL_landing 4 = .ok (.invokevirtual 37, 3) := by decide +kernel
theorem dL_landing_7 : decode cL_landing 7 = .ok (.i2l, 1) := by decide +kernel
theorem dL_landing_8 : decode cL_landing 8 = .ok (.lastore, 1) := by decide +kernel
theorem dL_landing_9 : decode cL_landing 9 = .ok (.goto 6, 3) := by decide +kernel
theorem dL_landing_12 : decode cL_landing 12 = .ok (.astore_n 3, 1) := by decide +kernel
theorem dL_landing_13 : decode cL_landing 13 = .ok (.iconst 1, 1) := by decide +kernel
theorem dL_landing_14 : decode cL_landing 14 = .ok (.ireturn, 1) := by decide +kernel
theorem dL_landing_15 : decode cL_landing 15 = .ok (.iconst 0, 1) := by decide +kernel
theorem dL_landing_16 : decode cL_landing 16 = .ok (.ireturn, 1) := by decide +kernel
theorem dL_isWild_0 : decode cL_isWild 0 = .ok (.aload_n 2, 1) := by decide +kernel
theorem dL_isWild_1 : decode cL_isWild 1 = .ok (.iconst 0, 1) := by decide +kernel
theorem dL_isWild_2 : decode cL_isWild 2 = .ok (.aload_n 0, 1) := by decide +kernel
theorem dL_isWild_3 : decode cL_isWild 3 = .ok (.iload_n 1, 1) := by decide +kernel
theorem dL_isWild_4 : decode cL_isWild 4 = .ok (.invokevirtual 40, 3) := by decide +kernel
theorem dL_isWild_7 : decode cL_isWild 7 = .ok (.ifCond .eq 7, 3) := by decide +kernel
theorem dL_isWild_10 : decode cL_isWild 10 = .ok (.lconst 1, 1) := by decide +kernel
theorem dL_isWild_11 : decode cL_isWild 11 = .ok (.goto 4, 3) := by decide +kernel
theorem dL_isWild_14 : decode cL_isWild 14 = .ok (.lconst 0, 1) := by decide +kernel
theorem dL_isWild_15 : decode cL_isWild 15 = .ok (.lastore, 1) := by decide +kernel
theorem dL_isWild_16 : decode cL_isWild 16 = .ok (.goto 6, 3) := by decide +kernel
theorem dL_isWild_19 : decode cL_isWild 19 = .ok (.astore_n 3, 1) := by decide +kernel
theorem dL_isWild_20 : decode cL_isWild 20 = .ok (.iconst 1, 1) := by decide +kernel
theorem dL_isWild_21 : decode cL_isWild 21 = .ok (.ireturn, 1) := by decide +kernel
theorem dL_isWild_22 : decode cL_isWild 22 = .ok (.iconst 0, 1) := by decide +kernel
theorem dL_isWild_23 : decode cL_isWild 23 = .ok (.ireturn, 1) := by decide +kernel
theorem dL_highestJet_0 : decode cL_highestJet 0 = .ok (.aload_n 1, 1) := by decide +kernel
theorem dL_highestJet_1 : decode cL_highestJet 1 = .ok (.iconst 0, 1) := by decide +kernel
theorem dL_highestJet_2 : decode cL_highestJet 2 = .ok (.aload_n 0, 1) := by decide +kernel
theorem dL_highestJet_3 : decode cL_highestJet 3 = .ok (.invokevirtual 44, 3) := by decide +kernel
theorem dL_highestJet_6 : decode cL_highestJet 6 = .ok (.i2l, 1) := by decide +kernel
theorem dL_highestJet_7 : decode cL_highestJet 7 = .ok (.lastore, 1) := by decide +kernel
theorem dL_highestJet_8 : decode cL_highestJet 8 = .ok (.goto 6, 3) := by decide +kernel
theorem dL_highestJet_11 : decode cL_highestJet 11 = .ok (.astore_n 2, 1) := by decide +kernel
theorem dL_highestJet_12 : decode cL_highestJet 12 = .ok (.iconst 1, 1) := by decide +kernel
theorem dL_highestJet_13 : decode cL_highestJet 13 = .ok (.ireturn, 1) := by decide +kernel
theorem dL_highestJet_14 : decode cL_highestJet 14 = .ok (.iconst 0, 1) := by decide +kernel
theorem dL_highestJet_15 : decode cL_highestJet 15 = .ok (.ireturn, 1) := by decide +kernel
theorem dL_jetByPosition_0 : decode cL_jetByPosition 0 = .ok (.aload_n 2, 1) := by decide +kernel
theorem dL_jetByPosition_1 : decode cL_jetByPosition 1 = .ok (.iconst 0, 1) := by decide +kernel
theorem dL_jetByPosition_2 : decode cL_jetByPosition 2 = .ok (.aload_n 0, 1) := by decide +kernel
theorem dL_jetByPosition_3 : decode cL_jetByPosition 3 = .ok (.iload_n 1, 1) := by decide +kernel
theorem dL_jetByPosition_4 : decode cL_jetByPosition 4 = .ok (.invokevirtual 50, 3) := by decide +kernel
theorem dL_jetByPosition_7 : decode cL_jetByPosition 7 = .ok (.i2l, 1) := by decide +kernel
theorem dL_jetByPosition_8 : decode cL_jetByPosition 8 = .ok (.lastore, 1) := by decide +kernel
theorem dL_jetByPosition_9 : decode cL_jetByPosition 9 = .ok (.goto 6, 3) := by decide +kernel
theorem dL_jetByPosition_12 : decode cL_jetByPosition 12 = .ok (.astore_n 3, 1) := by decide +kernel
theorem dL_jetByPosition_13 : decode cL_jetByPosition 13 = .ok (.iconst 1, 1) := by decide +kernel
theorem dL_jetByPosition_14 : decode cL_jetByPosition 14 = .ok (.ireturn, 1) := by decide +kernel
theorem dL_jetByPosition_15 : decode cL_jetByPosition 15 = .ok (.iconst 0, 1) := by decide +kernel
theorem dL_jetByPosition_16 : decode cL_jetByPosition 16 = .ok (.ireturn, 1) := by decide +kernel
theorem dL_nearestLanding_0 : decode cL_nearestLanding 0 = .ok (.aload_n 2, 1) := by decide +kernel
theorem dL_nearestLanding_1 : decode cL_nearestLanding 1 = .ok (.iconst 0, 1) := by decide +kernel
theorem dL_nearestLanding_2 : decode cL_nearestLanding 2 = .ok (.aload_n 0, 1) := by decide +kernel
theorem dL_nearestLanding_3 : decode cL_nearestLanding 3 = .ok (.iload_n 1, 1) := by decide +kernel
theorem dL_nearestLanding_4 : decode cL_nearestLanding 4 = .ok (.invokevirtual 53, 3) := by decide +kernel
theorem dL_nearestLanding_7 : decode cL_nearestLanding 7 = .ok (.i2l, 1) := by decide +kernel
theorem dL_nearestLanding_8 : decode cL_nearestLanding 8 = .ok (.lastore, 1) := by decide +kernel
theorem dL_nearestLanding_9 : decode cL_nearestLanding 9 = .ok (.goto 6, 3) := by decide +kernel
theorem dL_nearestLanding_12 : decode cL_nearestLanding 12 = .ok (.astore_n 3, 1) := by decide +kernel
theorem dL_nearestLanding_13 : decode cL_nearestLanding 13 = .ok (.iconst 1, 1) := by decide +kernel
theorem dL_nearestLanding_14 : decode cL_nearestLanding 14 = .ok (.ireturn, 1) := by decide +kernel
theorem dL_nearestLanding_15 : decode cL_nearestLanding 15 = .ok (.iconst 0, 1) := by decide +kernel
theorem dL_nearestLanding_16 : decode cL_nearestLanding 16 = .ok (.ireturn, 1) := by decide +kernel
theorem dL_setCapacity_0 : decode cL_setCapacity 0 = .ok (.aload_n 2, 1) := by decide +kernel
theorem dL_setCapacity_1 : decode cL_setCapacity 1 = .ok (.iconst 0, 1) := by decide +kernel
theorem dL_setCapacity_2 : decode cL_setCapacity 2 = .ok (.aload_n 0, 1) := by decide +kernel
theorem dL_setCapacity_3 : decode cL_setCapacity 3 = .ok (.iload_n 1, 1) := by decide +kernel
theorem dL_setCapacity_4 : decode cL_setCapacity 4 = .ok (.invokevirtual 56, 3) := by decide +kernel
theorem dL_setCapacity_7 : decode cL_setCapacity 7 = .ok (.i2l, 1) := by decide +kernel
theorem dL_setCapacity_8 : decode cL_setCapacity 8 = .ok (.lastore, 1) := by decide +kernel
theorem dL_setCapacity_9 : decode cL_setCapacity 9 = .ok (.goto 6, 3) := by decide +kernel
theorem dL_setCapacity_12 : decode cL_setCapacity 12 = .ok (.astore_n 3, 1) := by decide +kernel
theorem dL_setCapacity_13 : decode cL_setCapacity 13 = .ok (.iconst 1, 1) := by decide +kernel
theorem dL_setCapacity_14 : decode cL_setCapacity 14 = .ok (.ireturn, 1) := by decide +kernel
theorem dL_setCapacity_15 : decode cL_setCapacity 15 = .ok (.iconst 0, 1) := by decide +kernel
theorem dL_setCapacity_16 : decode cL_setCapacity 16 = .ok (.ireturn, 1) := by decide +kernel
theorem dL_setWind_0 : decode cL_setWind 0 = .ok (.aload_n 2, 1) := by decide +kernel
theorem dL_setWind_1 : decode cL_setWind 1 = .ok (.iconst 0, 1) := by decide +kernel
theorem dL_setWind_2 : decode cL_setWind 2 = .ok (.aload_n 0, 1) := by decide +kernel
theorem dL_setWind_3 : decode cL_setWind 3 = .ok (.iload_n 1, 1) := by decide +kernel
theorem dL_setWind_4 : decode cL_setWind 4 = .ok (.invokevirtual 59, 3) := by decide +kernel
theorem dL_setWind_7 : decode cL_setWind 7 = .ok (.i2l, 1) := by decide +kernel
theorem dL_setWind_8 : decode cL_setWind 8 = .ok (.lastore, 1) := by decide +kernel
theorem dL_setWind_9 : decode cL_setWind 9 = .ok (.goto 6, 3) := by decide +kernel
theorem dL_setWind_12 : decode cL_setWind 12 = .ok (.astore_n 3, 1) := by decide +kernel
theorem dL_setWind_13 : decode cL_setWind 13 = .ok (.iconst 1, 1) := by decide +kernel
theorem dL_setWind_14 : decode cL_setWind 14 = .ok (.ireturn, 1) := by decide +kernel
theorem dL_setWind_15 : decode cL_setWind 15 = .ok (.iconst 0, 1) := by decide +kernel
theorem dL_setWind_16 : decode cL_setWind 16 = .ok (.ireturn, 1) := by decide +kernel
theorem dL_addFigure_0 : decode cL_addFigure 0 = .ok (.aload_n 1, 1) := by decide +kernel
theorem dL_addFigure_1 : decode cL_addFigure 1 = .ok (.iconst 0, 1) := by decide +kernel
theorem dL_addFigure_2 : decode cL_addFigure 2 = .ok (.aload_n 0, 1) := by decide +kernel
theorem dL_addFigure_3 : decode cL_addFigure 3 = .ok (.invokevirtual 62, 3) := by decide +kernel
theorem dL_addFigure_6 : decode cL_addFigure 6 = .ok (.i2l, 1) := by decide +kernel
theorem dL_addFigure_7 : decode cL_addFigure 7 = .ok (.lastore, 1) := by decide +kernel
theorem dL_addFigure_8 : decode cL_addFigure 8 = .ok (.goto 6, 3) := by decide +kernel
theorem dL_addFigure_11 : decode cL_addFigure 11 = .ok (.astore_n 2, 1) := by decide +kernel
theorem dL_addFigure_12 : decode cL_addFigure 12 = .ok (.iconst 1, 1) := by decide +kernel
theorem dL_addFigure_13 : decode cL_addFigure 13 = .ok (.ireturn, 1) := by decide +kernel
theorem dL_addFigure_14 : decode cL_addFigure 14 = .ok (.iconst 0, 1) := by decide +kernel
theorem dL_addFigure_15 : decode cL_addFigure 15 = .ok (.ireturn, 1) := by decide +kernel
theorem dL_removeFigure_0 : decode cL_removeFigure 0 = .ok (.aload_n 2, 1) := by decide +kernel
theorem dL_removeFigure_1 : decode cL_removeFigure 1 = .ok (.iconst 0, 1) := by decide +kernel
theorem dL_removeFigure_2 : decode cL_removeFigure 2 = .ok (.aload_n 0, 1) := by decide +kernel
theorem dL_removeFigure_3 : decode cL_removeFigure 3 = .ok (.iload_n 1, 1) := by decide +kernel
theorem dL_removeFigure_4 : decode cL_removeFigure 4 = .ok (.invokevirtual 65, 3) := by decide +kernel
theorem dL_removeFigure_7 : decode cL_removeFigure 7 = .ok (.i2l, 1) := by decide +kernel
theorem dL_removeFigure_8 : decode cL_removeFigure 8 = .ok (.lastore, 1) := by decide +kernel
theorem dL_removeFigure_9 : decode cL_removeFigure 9 = .ok (.goto 9, 3) := by decide +kernel
theorem dL_removeFigure_12 : decode cL_removeFigure 12 = .ok (.astore_n 3, 1) := by decide +kernel
theorem dL_removeFigure_13 : decode cL_removeFigure 13 = .ok (.iconst 1, 1) := by decide +kernel
theorem dL_removeFigure_14 : decode cL_removeFigure 14 = .ok (.ireturn, 1) := by decide +kernel
theorem dL_removeFigure_15 : decode cL_removeFigure 15 = .ok (.astore_n 3, 1) := by decide +kernel
theorem dL_removeFigure_16 : decode cL_removeFigure 16 = .ok (.iconst 2, 1) := by decide +kernel
theorem dL_removeFigure_17 : decode cL_removeFigure 17 = .ok (.ireturn, 1) := by decide +kernel
theorem dL_removeFigure_18 : decode cL_removeFigure 18 = .ok (.iconst 0, 1) := by decide +kernel
theorem dL_removeFigure_19 : decode cL_removeFigure 19 = .ok (.ireturn, 1) := by decide +kernel
theorem dL_addStep_0 : decode cL_addStep 0 = .ok (.aload 5, 2) := by decide +kernel
theorem dL_addStep_2 : decode cL_addStep 2 = .ok (.iconst 0, 1) := by decide +kernel
theorem dL_addStep_3 : decode cL_addStep 3 = .ok (.aload_n 0, 1) := by decide +kernel
theorem dL_addStep_4 : decode cL_addStep 4 = .ok (.iload_n 1, 1) := by decide +kernel
theorem dL_addStep_5 : decode cL_addStep 5 = .ok (.iload_n 2, 1) := by decide +kernel
theorem dL_addStep_6 : decode cL_addStep 6 = .ok (.iload_n 3, 1) := by decide +kernel
theorem dL_addStep_7 : decode cL_addStep 7 = .ok (.iload 4, 2) := by decide +kernel
theorem dL_addStep_9 : decode cL_addStep 9 = .ok (.invokevirtual 68, 3) := by decide +kernel
theorem dL_addStep_12 : decode cL_addStep 12 = .ok (.i2l, 1) := by decide +kernel
theorem dL_addStep_13 : decode cL_addStep 13 = .ok (.lastore, 1) := by decide +kernel
theorem dL_addStep_14 : decode cL_addStep 14 = .ok (.goto 15, 3) := by decide +kernel
theorem dL_addStep_17 : decode cL_addStep 17 = .ok (.astore 6, 2) := by decide +kernel
theorem dL_addStep_19 : decode cL_addStep 19 = .ok (.iconst 1, 1) := by decide +kernel
theorem dL_addStep_20 : decode cL_addStep 20 = .ok (.ireturn, 1) := by decide +kernel
theorem dL_addStep_21 : decode cL_addStep 21 = .ok (.astore 6, 2) := by decide +kernel
theorem dL_addStep_23 : decode cL_addStep 23 = .ok (.iconst 2, 1) := by decide +kernel
theorem dL_addStep_24 : decode cL_addStep 24 = .ok (.ireturn, 1) := by decide +kernel
theorem dL_addStep_25 : decode cL_addStep 25 = .ok (.astore 6, 2) := by decide +kernel
theorem dL_addStep_27 : decode cL_addStep 27 = .ok (.iconst 3, 1) := by decide +kernel
theorem dL_addStep_28 : decode cL_addStep 28 = .ok (.ireturn, 1) := by decide +kernel
theorem dL_addStep_29 : decode cL_addStep 29 = .ok (.iconst 0, 1) := by decide +kernel
theorem dL_addStep_30 : decode cL_addStep 30 = .ok (.ireturn, 1) := by decide +kernel
theorem dL_removeStep_0 : decode cL_removeStep 0 = .ok (.aload_n 3, 1) := by decide +kernel
theorem dL_removeStep_1 : decode cL_removeStep 1 = .ok (.iconst 0, 1) := by decide +kernel
theorem dL_removeStep_2 : decode cL_removeStep 2 = .ok (.aload_n 0, 1) := by decide +kernel
theorem dL_removeStep_3 : decode cL_removeStep 3 = .ok (.iload_n 1, 1) := by decide +kernel
theorem dL_removeStep_4 : decode cL_removeStep 4 = .ok (.iload_n 2, 1) := by decide +kernel
theorem dL_removeStep_5 : decode cL_removeStep 5 = .ok (.invokevirtual 72, 3) := by decide +kernel
theorem dL_removeStep_8 : decode cL_removeStep 8 = .ok (.i2l, 1) := by decide +kernel
theorem dL_removeStep_9 : decode cL_removeStep 9 = .ok (.lastore, 1) := by decide +kernel
theorem dL_removeStep_10 : decode cL_removeStep 10 = .ok (.goto 7, 3) := by decide +kernel
theorem dL_removeStep_13 : decode cL_removeStep 13 = .ok (.astore 4, 2) := by decide +kernel
theorem dL_removeStep_15 : decode cL_removeStep 15 = .ok (.iconst 1, 1) := by decide +kernel
theorem dL_removeStep_16 : decode cL_removeStep 16 = .ok (.ireturn, 1) := by decide +kernel
theorem dL_removeStep_17 : decode cL_removeStep 17 = .ok (.iconst 0, 1) := by decide +kernel
theorem dL_removeStep_18 : decode cL_removeStep 18 = .ok (.ireturn, 1) := by decide +kernel
theorem dL_stepCount_0 : decode cL_stepCount 0 = .ok (.aload_n 2, 1) := by decide +kernel
theorem dL_stepCount_1 : decode cL_stepCount 1 = .ok (.iconst 0, 1) := by decide +kernel
theorem dL_stepCount_2 : decode cL_stepCount 2 = .ok (.aload_n 0, 1) := by decide +kernel
theorem dL_stepCount_3 : decode cL_stepCount 3 = .ok (.iload_n 1, 1) := by decide +kernel
theorem dL_stepCount_4 : decode cL_stepCount 4 = .ok (.invokevirtual 75, 3) := by decide +kernel
theorem dL_stepCount_7 : decode cL_stepCount 7 = .ok (.i2l, 1) := by decide +kernel
theorem dL_stepCount_8 : decode cL_stepCount 8 = .ok (.lastore, 1) := by decide +kernel
theorem dL_stepCount_9 : decode cL_stepCount 9 = .ok (.goto 6, 3) := by decide +kernel
theorem dL_stepCount_12 : decode cL_stepCount 12 = .ok (.astore_n 3, 1) := by decide +kernel
theorem dL_stepCount_13 : decode cL_stepCount 13 = .ok (.iconst 1, 1) := by decide +kernel
theorem dL_stepCount_14 : decode cL_stepCount 14 = .ok (.ireturn, 1) := by decide +kernel
theorem dL_stepCount_15 : decode cL_stepCount 15 = .ok (.iconst 0, 1) := by decide +kernel
theorem dL_stepCount_16 : decode cL_stepCount 16 = .ok (.ireturn, 1) := by decide +kernel
theorem dL_stepDelay_0 : decode cL_stepDelay 0 = .ok (.aload_n 3, 1) := by decide +kernel
theorem dL_stepDelay_1 : decode cL_stepDelay 1 = .ok (.iconst 0, 1) := by decide +kernel
theorem dL_stepDelay_2 : decode cL_stepDelay 2 = .ok (.aload_n 0, 1) := by decide +kernel
theorem dL_stepDelay_3 : decode cL_stepDelay 3 = .ok (.iload_n 1, 1) := by decide +kernel
theorem dL_stepDelay_4 : decode cL_stepDelay 4 = .ok (.iload_n 2, 1) := by decide +kernel
theorem dL_stepDelay_5 : decode cL_stepDelay 5 = .ok (.invokevirtual 78, 3) := by decide +kernel
theorem dL_stepDelay_8 : decode cL_stepDelay 8 = .ok (.i2l, 1) := by decide +kernel
theorem dL_stepDelay_9 : decode cL_stepDelay 9 = .ok (.lastore, 1) := by decide +kernel
theorem dL_stepDelay_10 : decode cL_stepDelay 10 = .ok (.goto 7, 3) := by decide +kernel
theorem dL_stepDelay_13 : decode cL_stepDelay 13 = .ok (.astore 4, 2) := by decide +kernel
theorem dL_stepDelay_15 : decode cL_stepDelay 15 = .ok (.iconst 1, 1) := by decide +kernel
theorem dL_stepDelay_16 : decode cL_stepDelay 16 = .ok (.ireturn, 1) := by decide +kernel
theorem dL_stepDelay_17 : decode cL_stepDelay 17 = .ok (.iconst 0, 1) := by decide +kernel
theorem dL_stepDelay_18 : decode cL_stepDelay 18 = .ok (.ireturn, 1) := by decide +kernel
theorem dL_stepJet_0 : decode cL_stepJet 0 = .ok (.aload_n 3, 1) := by decide +kernel
theorem dL_stepJet_1 : decode cL_stepJet 1 = .ok (.iconst 0, 1) := by decide +kernel
theorem dL_stepJet_2 : decode cL_stepJet 2 = .ok (.aload_n 0, 1) := by decide +kernel
theorem dL_stepJet_3 : decode cL_stepJet 3 = .ok (.iload_n 1, 1) := by decide +kernel
theorem dL_stepJet_4 : decode cL_stepJet 4 = .ok (.iload_n 2, 1) := by decide +kernel
theorem dL_stepJet_5 : decode cL_stepJet 5 = .ok (.invokevirtual 81, 3) := by decide +kernel
theorem dL_stepJet_8 : decode cL_stepJet 8 = .ok (.i2l, 1) := by decide +kernel
theorem dL_stepJet_9 : decode cL_stepJet 9 = .ok (.lastore, 1) := by decide +kernel
theorem dL_stepJet_10 : decode cL_stepJet 10 = .ok (.goto 7, 3) := by decide +kernel
theorem dL_stepJet_13 : decode cL_stepJet 13 = .ok (.astore 4, 2) := by decide +kernel
theorem dL_stepJet_15 : decode cL_stepJet 15 = .ok (.iconst 1, 1) := by decide +kernel
theorem dL_stepJet_16 : decode cL_stepJet 16 = .ok (.ireturn, 1) := by decide +kernel
theorem dL_stepJet_17 : decode cL_stepJet 17 = .ok (.iconst 0, 1) := by decide +kernel
theorem dL_stepJet_18 : decode cL_stepJet 18 = .ok (.ireturn, 1) := by decide +kernel
theorem dL_stepOpening_0 : decode cL_stepOpening 0 = .ok (.aload_n 3, 1) := by decide +kernel
theorem dL_stepOpening_1 : decode cL_stepOpening 1 = .ok (.iconst 0, 1) := by decide +kernel
theorem dL_stepOpening_2 : decode cL_stepOpening 2 = .ok (.aload_n 0, 1) := by decide +kernel
theorem dL_stepOpening_3 : decode cL_stepOpening 3 = .ok (.iload_n 1, 1) := by decide +kernel
theorem dL_stepOpening_4 : decode cL_stepOpening 4 = .ok (.iload_n 2, 1) := by decide +kernel
theorem dL_stepOpening_5 : decode cL_stepOpening 5 = .ok (.invokevirtual 84, 3) := by decide +kernel
theorem dL_stepOpening_8 : decode cL_stepOpening 8 = .ok (.i2l, 1) := by decide +kernel
theorem dL_stepOpening_9 : decode cL_stepOpening 9 = .ok (.lastore, 1) := by decide +kernel
theorem dL_stepOpening_10 : decode cL_stepOpening 10 = .ok (.goto 7, 3) := by decide +kernel
theorem dL_stepOpening_13 : decode cL_stepOpening 13 = .ok (.astore 4, 2) := by decide +kernel
theorem dL_stepOpening_15 : decode cL_stepOpening 15 = .ok (.iconst 1, 1) := by decide +kernel
theorem dL_stepOpening_16 : decode cL_stepOpening 16 = .ok (.ireturn, 1) := by decide +kernel
theorem dL_stepOpening_17 : decode cL_stepOpening 17 = .ok (.iconst 0, 1) := by decide +kernel
theorem dL_stepOpening_18 : decode cL_stepOpening 18 = .ok (.ireturn, 1) := by decide +kernel
theorem dL_figureLength_0 : decode cL_figureLength 0 = .ok (.aload_n 2, 1) := by decide +kernel
theorem dL_figureLength_1 : decode cL_figureLength 1 = .ok (.iconst 0, 1) := by decide +kernel
theorem dL_figureLength_2 : decode cL_figureLength 2 = .ok (.aload_n 0, 1) := by decide +kernel
theorem dL_figureLength_3 : decode cL_figureLength 3 = .ok (.iload_n 1, 1) := by decide +kernel
theorem dL_figureLength_4 : decode cL_figureLength 4 = .ok (.invokevirtual 87, 3) := by decide +kernel
theorem dL_figureLength_7 : decode cL_figureLength 7 = .ok (.i2l, 1) := by decide +kernel
theorem dL_figureLength_8 : decode cL_figureLength 8 = .ok (.lastore, 1) := by decide +kernel
theorem dL_figureLength_9 : decode cL_figureLength 9 = .ok (.goto 6, 3) := by decide +kernel
theorem dL_figureLength_12 : decode cL_figureLength 12 = .ok (.astore_n 3, 1) := by decide +kernel
theorem dL_figureLength_13 : decode cL_figureLength 13 = .ok (.iconst 1, 1) := by decide +kernel
theorem dL_figureLength_14 : decode cL_figureLength 14 = .ok (.ireturn, 1) := by decide +kernel
theorem dL_figureLength_15 : decode cL_figureLength 15 = .ok (.iconst 0, 1) := by decide +kernel
theorem dL_figureLength_16 : decode cL_figureLength 16 = .ok (.ireturn, 1) := by decide +kernel
theorem dL_figuresUsing_0 : decode cL_figuresUsing 0 = .ok (.aload_n 2, 1) := by decide +kernel
theorem dL_figuresUsing_1 : decode cL_figuresUsing 1 = .ok (.iconst 0, 1) := by decide +kernel
theorem dL_figuresUsing_2 : decode cL_figuresUsing 2 = .ok (.aload_n 0, 1) := by decide +kernel
theorem dL_figuresUsing_3 : decode cL_figuresUsing 3 = .ok (.iload_n 1, 1) := by decide +kernel
theorem dL_figuresUsing_4 : decode cL_figuresUsing 4 = .ok (.invokevirtual 90, 3) := by decide +kernel
theorem dL_figuresUsing_7 : decode cL_figuresUsing 7 = .ok (.i2l, 1) := by decide +kernel
theorem dL_figuresUsing_8 : decode cL_figuresUsing 8 = .ok (.lastore, 1) := by decide +kernel
theorem dL_figuresUsing_9 : decode cL_figuresUsing 9 = .ok (.goto 6, 3) := by decide +kernel
theorem dL_figuresUsing_12 : decode cL_figuresUsing 12 = .ok (.astore_n 3, 1) := by decide +kernel
theorem dL_figuresUsing_13 : decode cL_figuresUsing 13 = .ok (.iconst 1, 1) := by decide +kernel
theorem dL_figuresUsing_14 : decode cL_figuresUsing 14 = .ok (.ireturn, 1) := by decide +kernel
theorem dL_figuresUsing_15 : decode cL_figuresUsing 15 = .ok (.iconst 0, 1) := by decide +kernel
theorem dL_figuresUsing_16 : decode cL_figuresUsing 16 = .ok (.ireturn, 1) := by decide +kernel
theorem dL_play_0 : decode cL_play 0 = .ok (.aload_n 3, 1) := by decide +kernel
theorem dL_play_1 : decode cL_play 1 = .ok (.iconst 0, 1) := by decide +kernel
theorem dL_play_2 : decode cL_play 2 = .ok (.aload_n 0, 1) := by decide +kernel
theorem dL_play_3 : decode cL_play 3 = .ok (.iload_n 1, 1) := by decide +kernel
theorem dL_play_4 : decode cL_play 4 = .ok (.iload_n 2, 1) := by decide +kernel
theorem dL_play_5 : decode cL_play 5 = .ok (.invokevirtual 93, 3) := by decide +kernel
theorem dL_play_8 : decode cL_play 8 = .ok (.i2l, 1) := by decide +kernel
theorem dL_play_9 : decode cL_play 9 = .ok (.lastore, 1) := by decide +kernel
theorem dL_play_10 : decode cL_play 10 = .ok (.goto 15, 3) := by decide +kernel
theorem dL_play_13 : decode cL_play 13 = .ok (.astore 4, 2) := by decide +kernel
theorem dL_play_15 : decode cL_play 15 = .ok (.iconst 1, 1) := by decide +kernel
theorem dL_play_16 : decode cL_play 16 = .ok (.ireturn, 1) := by decide +kernel
theorem dL_play_17 : decode cL_play 17 = .ok (.astore 4, 2) := by decide +kernel
theorem dL_play_19 : decode cL_play 19 = .ok (.iconst 2, 1) := by decide +kernel
theorem dL_play_20 : decode cL_play 20 = .ok (.ireturn, 1) := by decide +kernel
theorem dL_play_21 : decode cL_play 21 = .ok (.astore 4, 2) := by decide +kernel
theorem dL_play_23 : decode cL_play 23 = .ok (.iconst 3, 1) := by decide +kernel
theorem dL_play_24 : decode cL_play 24 = .ok (.ireturn, 1) := by decide +kernel
theorem dL_play_25 : decode cL_play 25 = .ok (.iconst 0, 1) := by decide +kernel
theorem dL_play_26 : decode cL_play 26 = .ok (.ireturn, 1) := by decide +kernel
theorem dL_cancel_0 : decode cL_cancel 0 = .ok (.aload_n 2, 1) := by decide +kernel
theorem dL_cancel_1 : decode cL_cancel 1 = .ok (.iconst 0, 1) := by decide +kernel
theorem dL_cancel_2 : decode cL_cancel 2 = .ok (.aload_n 0, 1) := by decide +kernel
theorem dL_cancel_3 : decode cL_cancel 3 = .ok (.iload_n 1, 1) := by decide +kernel
theorem dL_cancel_4 : decode cL_cancel 4 = .ok (.invokevirtual 96, 3) := by decide +kernel
theorem dL_cancel_7 : decode cL_cancel 7 = .ok (.i2l, 1) := by decide +kernel
theorem dL_cancel_8 : decode cL_cancel 8 = .ok (.lastore, 1) := by decide +kernel
theorem dL_cancel_9 : decode cL_cancel 9 = .ok (.goto 6, 3) := by decide +kernel
theorem dL_cancel_12 : decode cL_cancel 12 = .ok (.astore_n 3, 1) := by decide +kernel
theorem dL_cancel_13 : decode cL_cancel 13 = .ok (.iconst 1, 1) := by decide +kernel
theorem dL_cancel_14 : decode cL_cancel 14 = .ok (.ireturn, 1) := by decide +kernel
theorem dL_cancel_15 : decode cL_cancel 15 = .ok (.iconst 0, 1) := by decide +kernel
theorem dL_cancel_16 : decode cL_cancel 16 = .ok (.ireturn, 1) := by decide +kernel
theorem dL_pass_0 : decode cL_pass 0 = .ok (.aload_n 2, 1) := by decide +kernel
theorem dL_pass_1 : decode cL_pass 1 = .ok (.iconst 0, 1) := by decide +kernel
theorem dL_pass_2 : decode cL_pass 2 = .ok (.aload_n 0, 1) := by decide +kernel
theorem dL_pass_3 : decode cL_pass 3 = .ok (.iload_n 1, 1) := by decide +kernel
theorem dL_pass_4 : decode cL_pass 4 = .ok (.invokevirtual 99, 3) := by decide +kernel
theorem dL_pass_7 : decode cL_pass 7 = .ok (.i2l, 1) := by decide +kernel
theorem dL_pass_8 : decode cL_pass 8 = .ok (.lastore, 1) := by decide +kernel
theorem dL_pass_9 : decode cL_pass 9 = .ok (.goto 6, 3) := by decide +kernel
theorem dL_pass_12 : decode cL_pass 12 = .ok (.astore_n 3, 1) := by decide +kernel
theorem dL_pass_13 : decode cL_pass 13 = .ok (.iconst 1, 1) := by decide +kernel
theorem dL_pass_14 : decode cL_pass 14 = .ok (.ireturn, 1) := by decide +kernel
theorem dL_pass_15 : decode cL_pass 15 = .ok (.iconst 0, 1) := by decide +kernel
theorem dL_pass_16 : decode cL_pass 16 = .ok (.ireturn, 1) := by decide +kernel
theorem dL_entryFigure_0 : decode cL_entryFigure 0 = .ok (.aload_n 2, 1) := by decide +kernel
theorem dL_entryFigure_1 : decode cL_entryFigure 1 = .ok (.iconst 0, 1) := by decide +kernel
theorem dL_entryFigure_2 : decode cL_entryFigure 2 = .ok (.aload_n 0, 1) := by decide +kernel
theorem dL_entryFigure_3 : decode cL_entryFigure 3 = .ok (.iload_n 1, 1) := by decide +kernel
theorem dL_entryFigure_4 : decode cL_entryFigure 4 = .ok (.invokevirtual 102, 3) := by decide +kernel
theorem dL_entryFigure_7 : decode cL_entryFigure 7 = .ok (.i2l, 1) := by decide +kernel
theorem dL_entryFigure_8 : decode cL_entryFigure 8 = .ok (.lastore, 1) := by decide +kernel
theorem dL_entryFigure_9 : decode cL_entryFigure 9 = .ok (.goto 6, 3) := by decide +kernel
theorem dL_entryFigure_12 : decode cL_entryFigure 12 = .ok (.astore_n 3, 1) := by decide +kernel
theorem dL_entryFigure_13 : decode cL_entryFigure 13 = .ok (.iconst 1, 1) := by decide +kernel
theorem dL_entryFigure_14 : decode cL_entryFigure 14 = .ok (.ireturn, 1) := by decide +kernel
theorem dL_entryFigure_15 : decode cL_entryFigure 15 = .ok (.iconst 0, 1) := by decide +kernel
theorem dL_entryFigure_16 : decode cL_entryFigure 16 = .ok (.ireturn, 1) := by decide +kernel
theorem dL_entryStart_0 : decode cL_entryStart 0 = .ok (.aload_n 2, 1) := by decide +kernel
theorem dL_entryStart_1 : decode cL_entryStart 1 = .ok (.iconst 0, 1) := by decide +kernel
theorem dL_entryStart_2 : decode cL_entryStart 2 = .ok (.aload_n 0, 1) := by decide +kernel
theorem dL_entryStart_3 : decode cL_entryStart 3 = .ok (.iload_n 1, 1) := by decide +kernel
theorem dL_entryStart_4 : decode cL_entryStart 4 = .ok (.invokevirtual 105, 3) := by decide +kernel
theorem dL_entryStart_7 : decode cL_entryStart 7 = .ok (.i2l, 1) := by decide +kernel
theorem dL_entryStart_8 : decode cL_entryStart 8 = .ok (.lastore, 1) := by decide +kernel
theorem dL_entryStart_9 : decode cL_entryStart 9 = .ok (.goto 6, 3) := by decide +kernel
theorem dL_entryStart_12 : decode cL_entryStart 12 = .ok (.astore_n 3, 1) := by decide +kernel
theorem dL_entryStart_13 : decode cL_entryStart 13 = .ok (.iconst 1, 1) := by decide +kernel
theorem dL_entryStart_14 : decode cL_entryStart 14 = .ok (.ireturn, 1) := by decide +kernel
theorem dL_entryStart_15 : decode cL_entryStart 15 = .ok (.iconst 0, 1) := by decide +kernel
theorem dL_entryStart_16 : decode cL_entryStart 16 = .ok (.ireturn, 1) := by decide +kernel
theorem dL_demandAfter_0 : decode cL_demandAfter 0 = .ok (.aload_n 2, 1) := by decide +kernel
theorem dL_demandAfter_1 : decode cL_demandAfter 1 = .ok (.iconst 0, 1) := by decide +kernel
theorem dL_demandAfter_2 : decode cL_demandAfter 2 = .ok (.aload_n 0, 1) := by decide +kernel
theorem dL_demandAfter_3 : decode cL_demandAfter 3 = .ok (.iload_n 1, 1) := by decide +kernel
theorem dL_demandAfter_4 : decode cL_demandAfter 4 = .ok (.invokevirtual 108, 3) := by decide +kernel
theorem dL_demandAfter_7 : decode cL_demandAfter 7 = .ok (.i2l, 1) := by decide +kernel
theorem dL_demandAfter_8 : decode cL_demandAfter 8 = .ok (.lastore, 1) := by decide +kernel
theorem dL_demandAfter_9 : decode cL_demandAfter 9 = .ok (.goto 6, 3) := by decide +kernel
theorem dL_demandAfter_12 : decode cL_demandAfter 12 = .ok (.astore_n 3, 1) := by decide +kernel
theorem dL_demandAfter_13 : decode cL_demandAfter 13 = .ok (.iconst 1, 1) := by decide +kernel
theorem dL_demandAfter_14 : decode cL_demandAfter 14 = .ok (.ireturn, 1) := by decide +kernel
theorem dL_demandAfter_15 : decode cL_demandAfter 15 = .ok (.iconst 0, 1) := by decide +kernel
theorem dL_demandAfter_16 : decode cL_demandAfter 16 = .ok (.ireturn, 1) := by decide +kernel
theorem dL_demandAfterBySteps_0 : decode cL_demandAfterBySteps 0 = .ok (.aload_n 2, 1) := by decide +kernel
theorem dL_demandAfterBySteps_1 : decode cL_demandAfterBySteps 1 = .ok (.iconst 0, 1) := by decide +kernel
theorem dL_demandAfterBySteps_2 : decode cL_demandAfterBySteps 2 = .ok (.aload_n 0, 1) := by decide +kernel
theorem dL_demandAfterBySteps_3 : decode cL_demandAfterBySteps 3 = .ok (.iload_n 1, 1) := by decide +kernel
theorem dL_demandAfterBySteps_4 : decode cL_demandAfterBySteps 4 = .ok (.invokevirtual 111, 3) := by decide +kernel
theorem dL_demandAfterBySteps_7 : decode cL_demandAfterBySteps 7 = .ok (.i2l, 1) := by decide +kernel
theorem dL_demandAfterBySteps_8 : decode cL_demandAfterBySteps 8 = .ok (.lastore, 1) := by decide +kernel
theorem dL_demandAfterBySteps_9 : decode cL_demandAfterBySteps 9 = .ok (.goto 6, 3) := by decide +kernel
theorem dL_demandAfterBySteps_12 : decode cL_demandAfterBySteps 12 = .ok (.astore_n 3, 1) := by decide +kernel
theorem dL_demandAfterBySteps_13 : decode cL_demandAfterBySteps 13 = .ok (.iconst 1, 1) := by decide +kernel
theorem dL_demandAfterBySteps_14 : decode cL_demandAfterBySteps 14 = .ok (.ireturn, 1) := by decide +kernel
theorem dL_demandAfterBySteps_15 : decode cL_demandAfterBySteps 15 = .ok (.iconst 0, 1) := by decide +kernel
theorem dL_demandAfterBySteps_16 : decode cL_demandAfterBySteps 16 = .ok (.ireturn, 1) := by decide +kernel
theorem dL_firstOverload_0 : decode cL_firstOverload 0 = .ok (.aload_n 2, 1) := by decide +kernel
theorem dL_firstOverload_1 : decode cL_firstOverload 1 = .ok (.iconst 0, 1) := by decide +kernel
theorem dL_firstOverload_2 : decode cL_firstOverload 2 = .ok (.aload_n 0, 1) := by decide +kernel
theorem dL_firstOverload_3 : decode cL_firstOverload 3 = .ok (.iload_n 1, 1) := by decide +kernel
theorem dL_firstOverload_4 : decode cL_firstOverload 4 = .ok (.invokevirtual 114, 3) := by decide +kernel
theorem dL_firstOverload_7 : decode cL_firstOverload 7 = .ok (.i2l, 1) := by decide +kernel
theorem dL_firstOverload_8 : decode cL_firstOverload 8 = .ok (.lastore, 1) := by decide +kernel
theorem dL_firstOverload_9 : decode cL_firstOverload 9 = .ok (.goto 9, 3) := by decide +kernel
theorem dL_firstOverload_12 : decode cL_firstOverload 12 = .ok (.astore_n 3, 1) := by decide +kernel
theorem dL_firstOverload_13 : decode cL_firstOverload 13 = .ok (.iconst 1, 1) := by decide +kernel
theorem dL_firstOverload_14 : decode cL_firstOverload 14 = .ok (.ireturn, 1) := by decide +kernel
theorem dL_firstOverload_15 : decode cL_firstOverload 15 = .ok (.astore_n 3, 1) := by decide +kernel
theorem dL_firstOverload_16 : decode cL_firstOverload 16 = .ok (.iconst 2, 1) := by decide +kernel
theorem dL_firstOverload_17 : decode cL_firstOverload 17 = .ok (.ireturn, 1) := by decide +kernel
theorem dL_firstOverload_18 : decode cL_firstOverload 18 = .ok (.iconst 0, 1) := by decide +kernel
theorem dL_firstOverload_19 : decode cL_firstOverload 19 = .ok (.ireturn, 1) := by decide +kernel
theorem dL_meanOpening_0 : decode cL_meanOpening 0 = .ok (.aload_n 1, 1) := by decide +kernel
theorem dL_meanOpening_1 : decode cL_meanOpening 1 = .ok (.iconst 0, 1) := by decide +kernel
theorem dL_meanOpening_2 : decode cL_meanOpening 2 = .ok (.aload_n 0, 1) := by decide +kernel
theorem dL_meanOpening_3 : decode cL_meanOpening 3 = .ok (.invokevirtual 117, 3) := by decide +kernel
theorem dL_meanOpening_6 : decode cL_meanOpening 6 = .ok (.dastore, 1) := by decide +kernel
theorem dL_meanOpening_7 : decode cL_meanOpening 7 = .ok (.goto 6, 3) := by decide +kernel
theorem dL_meanOpening_10 : decode cL_meanOpening 10 = .ok (.astore_n 2, 1) := by decide +kernel
theorem dL_meanOpening_11 : decode cL_meanOpening 11 = .ok (.iconst 1, 1) := by decide +kernel
theorem dL_meanOpening_12 : decode cL_meanOpening 12 = .ok (.ireturn, 1) := by decide +kernel
theorem dL_meanOpening_13 : decode cL_meanOpening 13 = .ok (.iconst 0, 1) := by decide +kernel
theorem dL_meanOpening_14 : decode cL_meanOpening 14 = .ok (.ireturn, 1) := by decide +kernel
theorem dL_supplyFraction_0 : decode cL_supplyFraction 0 = .ok (.aload_n 1, 1) := by decide +kernel
theorem dL_supplyFraction_1 : decode cL_supplyFraction 1 = .ok (.iconst 0, 1) := by decide +kernel
theorem dL_supplyFraction_2 : decode cL_supplyFraction 2 = .ok (.aload_n 0, 1) := by decide +kernel
theorem dL_supplyFraction_3 : decode cL_supplyFraction 3 = .ok (.invokevirtual 123, 3) := by decide +kernel
theorem dL_supplyFraction_6 : decode cL_supplyFraction 6 = .ok (.f2d, 1) := by decide +kernel
theorem dL_supplyFraction_7 : decode cL_supplyFraction 7 = .ok (.dastore, 1) := by decide +kernel
theorem dL_supplyFraction_8 : decode cL_supplyFraction 8 = .ok (.goto 6, 3) := by decide +kernel
theorem dL_supplyFraction_11 : decode cL_supplyFraction 11 = .ok (.astore_n 2, 1) := by decide +kernel
theorem dL_supplyFraction_12 : decode cL_supplyFraction 12 = .ok (.iconst 1, 1) := by decide +kernel
theorem dL_supplyFraction_13 : decode cL_supplyFraction 13 = .ok (.ireturn, 1) := by decide +kernel
theorem dL_supplyFraction_14 : decode cL_supplyFraction 14 = .ok (.iconst 0, 1) := by decide +kernel
theorem dL_supplyFraction_15 : decode cL_supplyFraction 15 = .ok (.ireturn, 1) := by decide +kernel
theorem dL_writeFigure_0 : decode cL_writeFigure 0 = .ok (.aload_n 2, 1) := by decide +kernel
theorem dL_writeFigure_1 : decode cL_writeFigure 1 = .ok (.iconst 0, 1) := by decide +kernel
theorem dL_writeFigure_2 : decode cL_writeFigure 2 = .ok (.aload_n 0, 1) := by decide +kernel
theorem dL_writeFigure_3 : decode cL_writeFigure 3 = .ok (.iload_n 1, 1) := by decide +kernel
theorem dL_writeFigure_4 : decode cL_writeFigure 4 = .ok (.invokevirtual 127, 3) := by decide +kernel
theorem dL_writeFigure_7 : decode cL_writeFigure 7 = .ok (.i2l, 1) := by decide +kernel
theorem dL_writeFigure_8 : decode cL_writeFigure 8 = .ok (.lastore, 1) := by decide +kernel
theorem dL_writeFigure_9 : decode cL_writeFigure 9 = .ok (.goto 6, 3) := by decide +kernel
theorem dL_writeFigure_12 : decode cL_writeFigure 12 = .ok (.astore_n 3, 1) := by decide +kernel
theorem dL_writeFigure_13 : decode cL_writeFigure 13 = .ok (.iconst 1, 1) := by decide +kernel
theorem dL_writeFigure_14 : decode cL_writeFigure 14 = .ok (.ireturn, 1) := by decide +kernel
theorem dL_writeFigure_15 : decode cL_writeFigure 15 = .ok (.iconst 0, 1) := by decide +kernel
theorem dL_writeFigure_16 : decode cL_writeFigure 16 = .ok (.ireturn, 1) := by decide +kernel
theorem dL_outputCharacter_0 : decode cL_outputCharacter 0 = .ok (.aload_n 2, 1) := by decide +kernel
theorem dL_outputCharacter_1 : decode cL_outputCharacter 1 = .ok (.iconst 0, 1) := by decide +kernel
theorem dL_outputCharacter_2 : decode cL_outputCharacter 2 = .ok (.aload_n 0, 1) := by decide +kernel
theorem dL_outputCharacter_3 : decode cL_outputCharacter 3 = .ok (.iload_n 1, 1) := by decide +kernel
theorem dL_outputCharacter_4 : decode cL_outputCharacter 4 = .ok (.invokevirtual 130, 3) := by decide +kernel
theorem dL_outputCharacter_7 : decode cL_outputCharacter 7 = .ok (.i2l, 1) := by decide +kernel
theorem dL_outputCharacter_8 : decode cL_outputCharacter 8 = .ok (.lastore, 1) := by decide +kernel
theorem dL_outputCharacter_9 : decode cL_outputCharacter 9 = .ok (.goto 6, 3) := by decide +kernel
theorem dL_outputCharacter_12 : decode cL_outputCharacter 12 = .ok (.astore_n 3, 1) := by decide +kernel
theorem dL_outputCharacter_13 : decode cL_outputCharacter 13 = .ok (.iconst 1, 1) := by decide +kernel
theorem dL_outputCharacter_14 : decode cL_outputCharacter 14 = .ok (.ireturn, 1) := by decide +kernel
theorem dL_outputCharacter_15 : decode cL_outputCharacter 15 = .ok (.iconst 0, 1) := by decide +kernel
theorem dL_outputCharacter_16 : decode cL_outputCharacter 16 = .ok (.ireturn, 1) := by decide +kernel
theorem dL_feed_0 : decode cL_feed 0 = .ok (.aload_n 2, 1) := by decide +kernel
theorem dL_feed_1 : decode cL_feed 1 = .ok (.iconst 0, 1) := by decide +kernel
theorem dL_feed_2 : decode cL_feed 2 = .ok (.aload_n 0, 1) := by decide +kernel
theorem dL_feed_3 : decode cL_feed 3 = .ok (.iload_n 1, 1) := by decide +kernel
theorem dL_feed_4 : decode cL_feed 4 = .ok (.invokevirtual 134, 3) := by decide +kernel
theorem dL_feed_7 : decode cL_feed 7 = .ok (.i2l, 1) := by decide +kernel
theorem dL_feed_8 : decode cL_feed 8 = .ok (.lastore, 1) := by decide +kernel
theorem dL_feed_9 : decode cL_feed 9 = .ok (.goto 6, 3) := by decide +kernel
theorem dL_feed_12 : decode cL_feed 12 = .ok (.astore_n 3, 1) := by decide +kernel
theorem dL_feed_13 : decode cL_feed 13 = .ok (.iconst 1, 1) := by decide +kernel
theorem dL_feed_14 : decode cL_feed 14 = .ok (.ireturn, 1) := by decide +kernel
theorem dL_feed_15 : decode cL_feed 15 = .ok (.iconst 0, 1) := by decide +kernel
theorem dL_feed_16 : decode cL_feed 16 = .ok (.ireturn, 1) := by decide +kernel
theorem dL_execute_0 : decode cL_execute 0 = .ok (.aload_n 1, 1) := by decide +kernel
theorem dL_execute_1 : decode cL_execute 1 = .ok (.iconst 0, 1) := by decide +kernel
theorem dL_execute_2 : decode cL_execute 2 = .ok (.aload_n 0, 1) := by decide +kernel
theorem dL_execute_3 : decode cL_execute 3 = .ok (.invokevirtual 138, 3) := by decide +kernel
theorem dL_execute_6 : decode cL_execute 6 = .ok (.i2l, 1) := by decide +kernel
theorem dL_execute_7 : decode cL_execute 7 = .ok (.lastore, 1) := by decide +kernel
theorem dL_execute_8 : decode cL_execute 8 = .ok (.goto 9, 3) := by decide +kernel
theorem dL_execute_11 : decode cL_execute 11 = .ok (.astore_n 2, 1) := by decide +kernel
theorem dL_execute_12 : decode cL_execute 12 = .ok (.iconst 1, 1) := by decide +kernel
theorem dL_execute_13 : decode cL_execute 13 = .ok (.ireturn, 1) := by decide +kernel
theorem dL_execute_14 : decode cL_execute 14 = .ok (.astore_n 2, 1) := by decide +kernel
theorem dL_execute_15 : decode cL_execute 15 = .ok (.iconst 2, 1) := by decide +kernel
theorem dL_execute_16 : decode cL_execute 16 = .ok (.ireturn, 1) := by decide +kernel
theorem dL_execute_17 : decode cL_execute 17 = .ok (.iconst 0, 1) := by decide +kernel
theorem dL_execute_18 : decode cL_execute 18 = .ok (.ireturn, 1) := by decide +kernel
theorem dL_errorPosition_0 : decode cL_errorPosition 0 = .ok (.aload_n 1, 1) := by decide +kernel
theorem dL_errorPosition_1 : decode cL_errorPosition 1 = .ok (.iconst 0, 1) := by decide +kernel
theorem dL_errorPosition_2 : decode cL_errorPosition 2 = .ok (.aload_n 0, 1) := by decide +kernel
theorem dL_errorPosition_3 : decode cL_errorPosition 3 = .ok (.invokevirtual 141, 3) := by decide +kernel
theorem dL_errorPosition_6 : decode cL_errorPosition 6 = .ok (.i2l, 1) := by decide +kernel
theorem dL_errorPosition_7 : decode cL_errorPosition 7 = .ok (.lastore, 1) := by decide +kernel
theorem dL_errorPosition_8 : decode cL_errorPosition 8 = .ok (.goto 6, 3) := by decide +kernel
theorem dL_errorPosition_11 : decode cL_errorPosition 11 = .ok (.astore_n 2, 1) := by decide +kernel
theorem dL_errorPosition_12 : decode cL_errorPosition 12 = .ok (.iconst 1, 1) := by decide +kernel
theorem dL_errorPosition_13 : decode cL_errorPosition 13 = .ok (.ireturn, 1) := by decide +kernel
theorem dL_errorPosition_14 : decode cL_errorPosition 14 = .ok (.iconst 0, 1) := by decide +kernel
theorem dL_errorPosition_15 : decode cL_errorPosition 15 = .ok (.ireturn, 1) := by decide +kernel
theorem dL_failedCommand_0 : decode cL_failedCommand 0 = .ok (.aload_n 1, 1) := by decide +kernel
theorem dL_failedCommand_1 : decode cL_failedCommand 1 = .ok (.iconst 0, 1) := by decide +kernel
theorem dL_failedCommand_2 : decode cL_failedCommand 2 = .ok (.aload_n 0, 1) := by decide +kernel
theorem dL_failedCommand_3 : decode cL_failedCommand 3 = .ok (.invokevirtual 144, 3) := by decide +kernel
theorem dL_failedCommand_6 : decode cL_failedCommand 6 = .ok (.i2l, 1) := by decide +kernel
theorem dL_failedCommand_7 : decode cL_failedCommand 7 = .ok (.lastore, 1) := by decide +kernel
theorem dL_failedCommand_8 : decode cL_failedCommand 8 = .ok (.goto 6, 3) := by decide +kernel
theorem dL_failedCommand_11 : decode cL_failedCommand 11 = .ok (.astore_n 2, 1) := by decide +kernel
theorem dL_failedCommand_12 : decode cL_failedCommand 12 = .ok (.iconst 1, 1) := by decide +kernel
theorem dL_failedCommand_13 : decode cL_failedCommand 13 = .ok (.ireturn, 1) := by decide +kernel
theorem dL_failedCommand_14 : decode cL_failedCommand 14 = .ok (.iconst 0, 1) := by decide +kernel
theorem dL_failedCommand_15 : decode cL_failedCommand 15 = .ok (.ireturn, 1) := by decide +kernel
theorem dL_undo_0 : decode cL_undo 0 = .ok (.aload_n 1, 1) := by decide +kernel
theorem dL_undo_1 : decode cL_undo 1 = .ok (.iconst 0, 1) := by decide +kernel
theorem dL_undo_2 : decode cL_undo 2 = .ok (.aload_n 0, 1) := by decide +kernel
theorem dL_undo_3 : decode cL_undo 3 = .ok (.invokevirtual 147, 3) := by decide +kernel
theorem dL_undo_6 : decode cL_undo 6 = .ok (.i2l, 1) := by decide +kernel
theorem dL_undo_7 : decode cL_undo 7 = .ok (.lastore, 1) := by decide +kernel
theorem dL_undo_8 : decode cL_undo 8 = .ok (.goto 6, 3) := by decide +kernel
theorem dL_undo_11 : decode cL_undo 11 = .ok (.astore_n 2, 1) := by decide +kernel
theorem dL_undo_12 : decode cL_undo 12 = .ok (.iconst 1, 1) := by decide +kernel
theorem dL_undo_13 : decode cL_undo 13 = .ok (.ireturn, 1) := by decide +kernel
theorem dL_undo_14 : decode cL_undo 14 = .ok (.iconst 0, 1) := by decide +kernel
theorem dL_undo_15 : decode cL_undo 15 = .ok (.ireturn, 1) := by decide +kernel
theorem dL_restore_0 : decode cL_restore 0 = .ok (.aload_n 1, 1) := by decide +kernel
theorem dL_restore_1 : decode cL_restore 1 = .ok (.iconst 0, 1) := by decide +kernel
theorem dL_restore_2 : decode cL_restore 2 = .ok (.aload_n 0, 1) := by decide +kernel
theorem dL_restore_3 : decode cL_restore 3 = .ok (.invokevirtual 150, 3) := by decide +kernel
theorem dL_restore_6 : decode cL_restore 6 = .ok (.i2l, 1) := by decide +kernel
theorem dL_restore_7 : decode cL_restore 7 = .ok (.lastore, 1) := by decide +kernel
theorem dL_restore_8 : decode cL_restore 8 = .ok (.goto 6, 3) := by decide +kernel
theorem dL_restore_11 : decode cL_restore 11 = .ok (.astore_n 2, 1) := by decide +kernel
theorem dL_restore_12 : decode cL_restore 12 = .ok (.iconst 1, 1) := by decide +kernel
theorem dL_restore_13 : decode cL_restore 13 = .ok (.ireturn, 1) := by decide +kernel
theorem dL_restore_14 : decode cL_restore 14 = .ok (.iconst 0, 1) := by decide +kernel
theorem dL_restore_15 : decode cL_restore 15 = .ok (.ireturn, 1) := by decide +kernel
