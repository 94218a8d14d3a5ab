theorem dL_cell_0 : decode cL_cell 0 = .ok (.iload_n 1, 1) := by decide +kernel
theorem dL_cell_1 : decode cL_cell 1 = .ok (.aload_n 0, 1) := by decide +kernel
theorem dL_cell_2 : decode cL_cell 2 = .ok (.arraylength, 1) := by decide +kernel
theorem dL_cell_3 : decode cL_cell 3 = .ok (.if_icmp .ge 9, 3) := by decide +kernel
theorem dL_cell_6 : decode cL_cell 6 = .ok (.aload_n 0, 1) := by decide +kernel
theorem dL_cell_7 : decode cL_cell 7 = .ok (.iload_n 1, 1) := by decide +kernel
theorem dL_cell_8 : decode cL_cell 8 = .ok (.iaload, 1) := by decide +kernel
theorem dL_cell_9 : decode cL_cell 9 = .ok (.goto 7, 3) := by decide +kernel
theorem dL_cell_12 : decode cL_cell 12 = .ok (.ldc 7, 2) := by decide +kernel
theorem dL_cell_14 : decode cL_cell 14 = .ok (.iload_n 1, 1) := by decide +kernel
theorem dL_cell_15 : decode cL_cell 15 = .ok (.imul, 1) := by decide +kernel
theorem dL_cell_16 : decode cL_cell 16 = .ok (.ireturn, 1) := by decide +kernel
theorem dL_pick_0 : decode cL_pick 0 = .ok (.aload_n 0, 1) := by decide +kernel
theorem dL_pick_1 : decode cL_pick 1 = .ok (.iload_n 1, 1) := by decide +kernel
theorem dL_pick_2 : decode cL_pick 2 = .ok (.invokestatic 8, 3) := by decide +kernel
theorem dL_pick_5 : decode cL_pick 5 = .ok (.iconst 1, 1) := by decide +kernel
theorem dL_pick_6 : decode cL_pick 6 = .ok (.iushr, 1) := by decide +kernel
theorem dL_pick_7 : decode cL_pick 7 = .ok (.iload_n 2, 1) := by decide +kernel
theorem dL_pick_8 : decode cL_pick 8 = .ok (.irem, 1) := by decide +kernel
theorem dL_pick_9 : decode cL_pick 9 = .ok (.ireturn, 1) := by decide +kernel
theorem dL_addJet_0 : decode cL_addJet 0 = .ok (.aload_n 0, 1) := by decide +kernel
theorem dL_addJet_1 : decode cL_addJet 1 = .ok (.iload_n 1, 1) := by decide +kernel
theorem dL_addJet_2 : decode cL_addJet 2 = .ok (.invokevirtual 14, 3) := by decide +kernel
theorem dL_addJet_5 : decode cL_addJet 5 = .ok (.ireturn, 1) := by decide +kernel
theorem dL_addJet_6 : decode cL_addJet 6 = .ok (.astore_n 2, 1) := by decide +kernel
theorem dL_addJet_7 : decode cL_addJet 7 = .ok (.sipush (-7800), 3) := by decide +kernel
theorem dL_addJet_10 : decode cL_addJet 10 = .ok (.ireturn, 1) := by decide +kernel
theorem dL_addJet_11 : decode cL_addJet 11 = .ok (.astore_n 2, 1) := by decide +kernel
theorem dL_addJet_12 : decode cL_addJet 12 = .ok (.sipush (-7600), 3) := by decide +kernel
theorem dL_addJet_15 : decode cL_addJet 15 = .ok (.ireturn, 1) := by decide +kernel
theorem dL_addJet_16 : decode cL_addJet 16 = .ok (.astore_n 2, 1) := by decide +kernel
theorem dL_addJet_17 : decode cL_addJet 17 = .ok (.sipush (-7900), 3) := by decide +kernel
theorem dL_addJet_20 : decode cL_addJet 20 = .ok (.ireturn, 1) := by decide +kernel
theorem dL_removeJet_0 : decode cL_removeJet 0 = .ok (.aload_n 0, 1) := by decide +kernel
theorem dL_removeJet_1 : decode cL_removeJet 1 = .ok (.iload_n 1, 1) := by decide +kernel
theorem dL_removeJet_2 : decode cL_removeJet 2 = .ok (.invokevirtual 26, 3) := by decide +kernel
theorem dL_removeJet_5 : decode cL_removeJet 5 = .ok (.ireturn, 1) := by decide +kernel
theorem dL_removeJet_6 : decode cL_removeJet 6 = .ok (.astore_n 2, 1) := by decide +kernel
theorem dL_removeJet_7 : decode cL_removeJet 7 = .ok (.sipush (-7700), 3) := by decide +kernel
theorem dL_removeJet_10 : decode cL_removeJet 10 = .ok (.ireturn, 1) := by decide +kernel
theorem dL_setOpening_0 : decode cL_setOpening 0 = .ok (.aload_n 0, 1) := by decide +kernel
theorem dL_setOpening_1 : decode cL_setOpening 1 = .ok (.iload_n 1, 1) := by decide +kernel
theorem dL_setOpening_2 : decode cL_setOpening 2 = .ok (.iload_n 2, 1) := by decide +kernel
theorem dL_setOpening_3 : decode cL_setOpening 3 = .ok (.invokevirtual 31, 3) := by decide +kernel
theorem dL_setOpening_6 : decode cL_setOpening 6 = .ok (.ireturn, 1) := by decide +kernel
theorem dL_setOpening_7 : decode cL_setOpening 7 = .ok (.astore_n 3, 1) := by decide +kernel
theorem dL_setOpening_8 : decode cL_setOpening 8 = .ok (.sipush (-7700), 3) := by decide +kernel
theorem dL_setOpening_11 : decode cL_setOpening 11 = .ok (.ireturn, 1) := by decide +kernel
theorem dL_setOpening_12 : decode cL_setOpening 12 = .ok (.astore_n 3, 1) := by decide +kernel
theorem dL_setOpening_13 : decode cL_setOpening 13 = .ok (.sipush (-7800), 3) := by decide +kernel
theorem dL_setOpening_16 : decode cL_setOpening 16 = .ok (.ireturn, 1) := by decide +kernel
theorem dL_position_0 : decode cL_position 0 = .ok (.aload_n 0, 1) := by decide +kernel
theorem dL_position_1 : decode cL_position 1 = .ok (.iload_n 1, 1) := by decide +kernel
theorem dL_position_2 : decode cL_position 2 = .ok (.invokevirtual 35, 3) := by decide +kernel
theorem dL_position_5 : decode cL_position 5 = .ok (.ireturn, 1) := by decide +kernel
theorem dL_position_6 : decode cL_position 6 = .ok (.astore_n 2, 1) := by decide +kernel
theorem dL_position_7 : decode cL_position 7 = .ok (.sipush (-7700), 3) := by decide +kernel
theorem dL_position_10 : decode cL_position 10 = .ok (.ireturn, 1) := by decide +kernel
theorem dL_opening_0 : decode cL_opening 0 = .ok (.aload_n 0, 1) := by decide +kernel
theorem dL_opening_1 : decode cL_opening 1 = .ok (.iload_n 1, 1) := by decide +kernel
theorem dL_opening_2 : decode cL_opening 2 = .ok (.invokevirtual 38, 3) := by decide +kernel
theorem dL_opening_5 : decode cL_opening 5 = .ok (.ireturn, 1) := by decide +kernel
theorem dL_opening_6 : decode cL_opening 6 = .ok (.astore_n 2, 1) := by decide +kernel
theorem dL_opening_7 : decode cL_opening 7 = .ok (.sipush (-7700), 3) := by decide +kernel
theorem dL_opening_10 : decode cL_opening 10 = .ok (.ireturn, 1) := by decide +kernel
theorem dL_height_0 : decode cL_height 0 = .ok (.aload_n 0, 1) := by decide +kernel
theorem dL_height_1 : decode cL_height 1 = .ok (.iload_n 1, 1) := by decide +kernel
theorem dL_height_2 : decode cL_height 2 = .ok (.invokevirtual 41, 3) := by decide +kernel
theorem dL_height_5 : decode cL_height 5 = .ok (.ireturn, 1) := by decide +kernel
theorem dL_height_6 : decode cL_height 6 = .ok (.astore_n 2, 1) := by decide +kernel
theorem dL_height_7 : decode cL_height 7 = .ok (.sipush (-7700), 3) := by decide +kernel
theorem dL_height_10 : decode cL_height 10 = .ok (.ireturn, 1) := by decide +kernel
theorem dL_landing_0 : decode cL_landing 0 = .ok (.aload_n 0, 1) := by decide +kernel
theorem dL_landing_1 : decode cL_landing 1 = .ok (.iload_n 1, 1) := by decide +kernel
theorem dL_landing_2 : decode cL_landing 2 = .ok (.invokevirtual 44, 3) := by decide +kernel
theorem dL_landing_5 : decode cL_landing 5 = .ok (.ireturn, 1) := by decide +kernel
theorem dL_landing_6 : decode cL_landing 6 = .ok (.astore_n 2, 1) := by decide +kernel
theorem dL_landing_7 : decode cL_landing 7 = .ok (.sipush (-7700), 3) := by decide +kernel
theorem dL_landing_10 : decode cL_landing 10 = .ok (.ireturn, 1) := by decide +kernel
theorem dL_isWild_0 : decode cL_isWild 0 = .ok (.aload_n 0, 1) := by decide +kernel
theorem dL_isWild_1 : decode cL_isWild 1 = .ok (.iload_n 1, 1) := by decide +kernel
theorem dL_isWild_2 : decode cL_isWild 2 = .ok (.invokevirtual 47, 3) := by decide +kernel
theorem dL_isWild_5 : decode cL_isWild 5 = .ok (.ifCond .eq 7, 3) := by decide +kernel
theorem dL_isWild_8 : decode cL_isWild 8 = .ok (.iconst 1, 1) := by decide +kernel
theorem dL_isWild_9 : decode cL_isWild 9 = .ok (.goto 4, 3) := by decide +kernel
theorem dL_isWild_12 : decode cL_isWild 12 = .ok (.iconst 0, 1) := by decide +kernel
theorem dL_isWild_13 : decode cL_isWild 13 = .ok (.ireturn, 1) := by decide +kernel
theorem dL_isWild_14 : decode cL_isWild 14 = .ok (.astore_n 2, 1) := by decide +kernel
theorem dL_isWild_15 : decode cL_isWild 15 = .ok (.sipush (-7700), 3) := by decide +kernel
theorem dL_isWild_18 : decode cL_isWild 18 = .ok (.ireturn, 1) := by decide +kernel
theorem dL_highestJet_0 : decode cL_highestJet 0 = .ok (.aload_n 0, 1) := by decide +kernel
theorem dL_highestJet_1 : decode cL_highestJet 1 = .ok (.invokevirtual 51, 3) := by decide +kernel
theorem dL_highestJet_4 : decode cL_highestJet 4 = .ok (.ireturn, 1) := by decide +kernel
theorem dL_highestJet_5 : decode cL_highestJet 5 = .ok (.astore_n 1, 1) := by decide +kernel
theorem dL_highestJet_6 : decode cL_highestJet 6 = .ok (.sipush (-7500), 3) := by decide +kernel
theorem dL_highestJet_9 : decode cL_highestJet 9 = .ok (.ireturn, 1) := by decide +kernel
theorem dL_jetByPosition_0 : decode cL_jetByPosition 0 = .ok (.aload_n 0, 1) := by decide +kernel
theorem dL_jetByPosition_1 : decode cL_jetByPosition 1 = .ok (.iload_n 1, 1) := by decide +kernel
theorem dL_jetByPosition_2 : decode cL_jetByPosition 2 = .ok (.invokevirtual 57, 3) := by decide +kernel
theorem dL_jetByPosition_5 : decode cL_jetByPosition 5 = .ok (.ireturn, 1) := by decide +kernel
theorem dL_jetByPosition_6 : decode cL_jetByPosition 6 = .ok (.astore_n 2, 1) := by decide +kernel
theorem dL_jetByPosition_7 : decode cL_jetByPosition 7 = .ok (.sipush (-7500), 3) := by decide +kernel
theorem dL_jetByPosition_10 : decode cL_jetByPosition 10 = .ok (.ireturn, 1) := by decide +kernel
theorem dL_nearestLanding_0 : decode cL_nearestLanding 0 = .ok (.aload_n 0, 1) := by decide +kernel
theorem dL_nearestLanding_1 : decode cL_nearestLanding 1 = .ok (.iload_n 1, 1) := by decide +kernel
theorem dL_nearestLanding_2 : decode cL_nearestLanding 2 = .ok (.invokevirtual 60, 3) := by decide +kernel
theorem dL_nearestLanding_5 : decode cL_nearestLanding 5 = .ok (.ireturn, 1) := by decide +kernel
theorem dL_nearestLanding_6 : decode cL_nearestLanding 6 = .ok (.astore_n 2, 1) := by decide +kernel
theorem dL_nearestLanding_7 : decode cL_nearestLanding 7 = .ok (.sipush (-7500), 3) := by decide +kernel
theorem dL_nearestLanding_10 : decode cL_nearestLanding 10 = .ok (.ireturn, 1) := by decide +kernel
theorem dL_setCapacity_0 : decode cL_setCapacity 0 = .ok (.aload_n 0, 1) := by decide +kernel
theorem dL_setCapacity_1 : decode cL_setCapacity 1 = .ok (.iload_n 1, 1) := by decide +kernel
theorem dL_setCapacity_2 : decode cL_setCapacity 2 = .ok (.invokevirtual 63, 3) := by decide +kernel
theorem dL_setCapacity_5 : decode cL_setCapacity 5 = .ok (.ireturn, 1) := by decide +kernel
theorem dL_setCapacity_6 : decode cL_setCapacity 6 = .ok (.astore_n 2, 1) := by decide +kernel
theorem dL_setCapacity_7 : decode cL_setCapacity 7 = .ok (.sipush (-7800), 3) := by decide +kernel
theorem dL_setCapacity_10 : decode cL_setCapacity 10 = .ok (.ireturn, 1) := by decide +kernel
theorem dL_setWind_0 : decode cL_setWind 0 = .ok (.aload_n 0, 1) := by decide +kernel
theorem dL_setWind_1 : decode cL_setWind 1 = .ok (.iload_n 1, 1) := by decide +kernel
theorem dL_setWind_2 : decode cL_setWind 2 = .ok (.invokevirtual 66, 3) := by decide +kernel
theorem dL_setWind_5 : decode cL_setWind 5 = .ok (.ireturn, 1) := by decide +kernel
theorem dL_setWind_6 : decode cL_setWind 6 = .ok (.astore_n 2, 1) := by decide +kernel
theorem dL_setWind_7 : decode cL_setWind 7 = .ok (.sipush (-7800), 3) := by decide +kernel
theorem dL_setWind_10 : decode cL_setWind 10 = .ok (.ireturn, 1) := by decide +kernel
theorem dL_addFigure_0 : decode cL_addFigure 0 = .ok (.aload_n 0, 1) := by decide +kernel
theorem dL_addFigure_1 : decode cL_addFigure 1 = .ok (.invokevirtual 69, 3) := by decide +kernel
theorem dL_addFigure_4 : decode cL_addFigure 4 = .ok (.ireturn, 1) := by decide +kernel
theorem dL_addFigure_5 : decode cL_addFigure 5 = .ok (.astore_n 1, 1) := by decide +kernel
theorem dL_addFigure_6 : decode cL_addFigure 6 = .ok (.sipush (-7900), 3) := by decide +kernel
theorem dL_addFigure_9 : decode cL_addFigure 9 = .ok (.ireturn, 1) := by decide +kernel
theorem dL_removeFigure_0 : decode cL_removeFigure 0 = .ok (.aload_n 0, 1) := by decide +kernel
theorem dL_removeFigure_1 : decode cL_removeFigure 1 = .ok (.iload_n 1, 1) := by decide +kernel
theorem dL_removeFigure_2 : decode cL_removeFigure 2 = .ok (.invokevirtual 72, 3) := by decide +kernel
theorem dL_removeFigure_5 : decode cL_removeFigure 5 = .ok (.ireturn, 1) := by decide +kernel
theorem dL_removeFigure_6 : decode cL_removeFigure 6 = .ok (.astore_n 2, 1) := by decide +kernel
theorem dL_removeFigure_7 : decode cL_removeFigure 7 = .ok (.sipush (-7700), 3) := by decide +kernel
theorem dL_removeFigure_10 : decode cL_removeFigure 10 = .ok (.ireturn, 1) := by decide +kernel
theorem dL_removeFigure_11 : decode cL_removeFigure 11 = .ok (.astore_n 2, 1) := by decide +kernel
theorem dL_removeFigure_12 : decode cL_removeFigure 12 = .ok (.sipush (-7900), 3) := by decide +kernel
theorem dL_removeFigure_15 : decode cL_removeFigure 15 = .ok (.ireturn, 1) := by decide +kernel
theorem dL_addStep_0 : decode cL_addStep 0 = .ok (.aload_n 0, 1) := by decide +kernel
theorem dL_addStep_1 : decode cL_addStep 1 = .ok (.iload_n 1, 1) := by decide +kernel
theorem dL_addStep_2 : decode cL_addStep 2 = .ok (.iload_n 2, 1) := by decide +kernel
theorem dL_addStep_3 : decode cL_addStep 3 = .ok (.iload_n 3, 1) := by decide +kernel
theorem dL_addStep_4 : decode cL_addStep 4 = .ok (.iload 4, 2) := by decide +kernel
theorem dL_addStep_6 : decode cL_addStep 6 = .ok (.invokevirtual 75, 3) := by decide +kernel
theorem dL_addStep_9 : decode cL_addStep 9 = .ok (.ireturn, 1) := by decide +kernel
theorem dL_addStep_10 : decode cL_addStep 10 = .ok (.astore 5, 2) := by decide +kernel
theorem dL_addStep_12 : decode cL_addStep 12 = .ok (.sipush (-7700), 3) := by decide +kernel
theorem dL_addStep_15 : decode cL_addStep 15 = .ok (.ireturn, 1) := by decide +kernel
theorem dL_addStep_16 : decode cL_addStep 16 = .ok (.astore 5, 2) := by decide +kernel
theorem dL_addStep_18 : decode cL_addStep 18 = .ok (.sipush (-7800), 3) := by decide +kernel
theorem dL_addStep_21 : decode cL_addStep 21 = .ok (.ireturn, 1) := by decide +kernel
theorem dL_addStep_22 : decode cL_addStep 22 = .ok (.astore 5, 2) := by decide +kernel
theorem dL_addStep_24 : decode cL_addStep 24 = .ok (.sipush (-7900), 3) := by decide +kernel
theorem dL_addStep_27 : decode cL_addStep 27 = .ok (.ireturn, 1) := by decide +kernel
theorem dL_removeStep_0 : decode cL_removeStep 0 = .ok (.aload_n 0, 1) := by decide +kernel
theorem dL_removeStep_1 : decode cL_removeStep 1 = .ok (.iload_n 1, 1) := by decide +kernel
theorem dL_removeStep_2 : decode cL_removeStep 2 = .ok (.iload_n 2, 1) := by decide +kernel
theorem dL_removeStep_3 : decode cL_removeStep 3 = .ok (.invokevirtual 79, 3) := by decide +kernel
theorem dL_removeStep_6 : decode cL_removeStep 6 = .ok (.ireturn, 1) := by decide +kernel
theorem dL_removeStep_7 : decode cL_removeStep 7 = .ok (.astore_n 3, 1) := by decide +kernel
theorem dL_removeStep_8 : decode cL_removeStep 8 = .ok (.sipush (-7700), 3) := by decide +kernel
theorem dL_removeStep_11 : decode cL_removeStep 11 = .ok (.ireturn, 1) := by decide +kernel
theorem dL_stepCount_0 : decode cL_stepCount 0 = .ok (.aload_n 0, 1) := by decide +kernel
theorem dL_stepCount_1 : decode cL_stepCount 1 = .ok (.iload_n 1, 1) := by decide +kernel
theorem dL_stepCount_2 : decode cL_stepCount 2 = .ok (.invokevirtual 82, 3) := by decide +kernel
theorem dL_stepCount_5 : decode cL_stepCount 5 = .ok (.ireturn, 1) := by decide +kernel
theorem dL_stepCount_6 : decode cL_stepCount 6 = .ok (.astore_n 2, 1) := by decide +kernel
theorem dL_stepCount_7 : decode cL_stepCount 7 = .ok (.sipush (-7700), 3) := by decide +kernel
theorem dL_stepCount_10 : decode cL_stepCount 10 = .ok (.ireturn, 1) := by decide +kernel
theorem dL_stepDelay_0 : decode cL_stepDelay 0 = .ok (.aload_n 0, 1) := by decide +kernel
theorem dL_stepDelay_1 : decode cL_stepDelay 1 = .ok (.iload_n 1, 1) := by decide +kernel
theorem dL_stepDelay_2 : decode cL_stepDelay 2 = .ok (.iload_n 2, 1) := by decide +kernel
theorem dL_stepDelay_3 : decode cL_stepDelay 3 = .ok (.invokevirtual 85, 3) := by decide +kernel
theorem dL_stepDelay_6 : decode cL_stepDelay 6 = .ok (.ireturn, 1) := by decide +kernel
theorem dL_stepDelay_7 : decode cL_stepDelay 7 = .ok (.astore_n 3, 1) := by decide +kernel
theorem dL_stepDelay_8 : decode cL_stepDelay 8 = .ok (.sipush (-7700), 3) := by decide +kernel
theorem dL_stepDelay_11 : decode cL_stepDelay 11 = .ok (.ireturn, 1) := by decide +kernel
theorem dL_stepJet_0 : decode cL_stepJet 0 = .ok (.aload_n 0, 1) := by decide +kernel
theorem dL_stepJet_1 : decode cL_stepJet 1 = .ok (.iload_n 1, 1) := by decide +kernel
theorem dL_stepJet_2 : decode cL_stepJet 2 = .ok (.iload_n 2, 1) := by decide +kernel
theorem dL_stepJet_3 : decode cL_stepJet 3 = .ok (.invokevirtual 88, 3) := by decide +kernel
theorem dL_stepJet_6 : decode cL_stepJet 6 = .ok (.ireturn, 1) := by decide +kernel
theorem dL_stepJet_7 : decode cL_stepJet 7 = .ok (.astore_n 3, 1) := by decide +kernel
theorem dL_stepJet_8 : decode cL_stepJet 8 = .ok (.sipush (-7700), 3) := by decide +kernel
theorem dL_stepJet_11 : decode cL_stepJet 11 = .ok (.ireturn, 1) := by decide +kernel
theorem dL_stepOpening_0 : decode cL_stepOpening 0 = .ok (.aload_n 0, 1) := by decide +kernel
theorem dL_stepOpening_1 : decode cL_stepOpening 1 = .ok (.iload_n 1, 1) := by decide +kernel
theorem dL_stepOpening_2 : decode cL_stepOpening 2 = .ok (.iload_n 2, 1) := by decide +kernel
theorem dL_stepOpening_3 : decode cL_stepOpening 3 = .ok (.invokevirtual 91, 3) := by decide +kernel
theorem dL_stepOpening_6 : decode cL_stepOpening 6 = .ok (.ireturn, 1) := by decide +kernel
theorem dL_stepOpening_7 : decode cL_stepOpening 7 = .ok (.astore_n 3, 1) := by decide +kernel
theorem dL_stepOpening_8 : decode cL_stepOpening 8 = .ok (.sipush (-7700), 3) := by decide +kernel
theorem dL_stepOpening_11 : decode cL_stepOpening 11 = .ok (.ireturn, 1) := by decide +kernel
theorem dL_figureLength_0 : decode cL_figureLength 0 = .ok (.aload_n 0, 1) := by decide +kernel
theorem dL_figureLength_1 : decode cL_figureLength 1 = .ok (.iload_n 1, 1) := by decide +kernel
theorem dL_figureLength_2 : decode cL_figureLength 2 = .ok (.invokevirtual 94, 3) := by decide +kernel
theorem dL_figureLength_5 : decode cL_figureLength 5 = .ok (.ireturn, 1) := by decide +kernel
theorem dL_figureLength_6 : decode cL_figureLength 6 = .ok (.astore_n 2, 1) := by decide +kernel
theorem dL_figureLength_7 : decode cL_figureLength 7 = .ok (.sipush (-7700), 3) := by decide +kernel
theorem dL_figureLength_10 : decode cL_figureLength 10 = .ok (.ireturn, 1) := by decide +kernel
theorem dL_figuresUsing_0 : decode cL_figuresUsing 0 = .ok (.aload_n 0, 1) := by decide +kernel
theorem dL_figuresUsing_1 : decode cL_figuresUsing 1 = .ok (.iload_n 1, 1) := by decide +kernel
theorem dL_figuresUsing_2 : decode cL_figuresUsing 2 = .ok (.invokevirtual 97, 3) := by decide +kernel
theorem dL_figuresUsing_5 : decode cL_figuresUsing 5 = .ok (.ireturn, 1) := by decide +kernel
theorem dL_figuresUsing_6 : decode cL_figuresUsing 6 = .ok (.astore_n 2, 1) := by decide +kernel
theorem dL_figuresUsing_7 : decode cL_figuresUsing 7 = .ok (.sipush (-7700), 3) := by decide +kernel
theorem dL_figuresUsing_10 : decode cL_figuresUsing 10 = .ok (.ireturn, 1) := by decide +kernel
theorem dL_play_0 : decode cL_play 0 = .ok (.aload_n 0, 1) := by decide +kernel
theorem dL_play_1 : decode cL_play 1 = .ok (.iload_n 1, 1) := by decide +kernel
theorem dL_play_2 : decode cL_play 2 = .ok (.iload_n 2, 1) := by decide +kernel
theorem dL_play_3 : decode cL_play 3 = .ok (.invokevirtual 100, 3) := by decide +kernel
theorem dL_play_6 : decode cL_play 6 = .ok (.ireturn, 1) := by decide +kernel
theorem dL_play_7 : decode cL_play 7 = .ok (.astore_n 3, 1) := by decide +kernel
theorem dL_play_8 : decode cL_play 8 = .ok (.sipush (-7700), 3) := by decide +kernel
theorem dL_play_11 : decode cL_play 11 = .ok (.ireturn, 1) := by decide +kernel
theorem dL_play_12 : decode cL_play 12 = .ok (.astore_n 3, 1) := by decide +kernel
theorem dL_play_13 : decode cL_play 13 = .ok (.sipush (-7800), 3) := by decide +kernel
theorem dL_play_16 : decode cL_play 16 = .ok (.ireturn, 1) := by decide +kernel
theorem dL_play_17 : decode cL_play 17 = .ok (.astore_n 3, 1) := by decide +kernel
theorem dL_play_18 : decode cL_play 18 = .ok (.sipush (-7900), 3) := by decide +kernel
theorem dL_play_21 : decode cL_play 21 = .ok (.ireturn, 1) := by decide +kernel
theorem dL_cancel_0 : decode cL_cancel 0 = .ok (.aload_n 0, 1) := by decide +kernel
theorem dL_cancel_1 : decode cL_cancel 1 = .ok (.iload_n 1, 1) := by decide +kernel
theorem dL_cancel_2 : decode cL_cancel 2 = .ok (.invokevirtual 103, 3) := by decide +kernel
theorem dL_cancel_5 : decode cL_cancel 5 = .ok (.ireturn, 1) := by decide +kernel
theorem dL_cancel_6 : decode cL_cancel 6 = .ok (.astore_n 2, 1) := by decide +kernel
theorem dL_cancel_7 : decode cL_cancel 7 = .ok (.sipush (-7700), 3) := by decide +kernel
theorem dL_cancel_10 : decode cL_cancel 10 = .ok (.ireturn, 1) := by decide +kernel
theorem dL_pass_0 : decode cL_pass 0 = .ok (.aload_n 0, 1) := by decide +kernel
theorem dL_pass_1 : decode cL_pass 1 = .ok (.iload_n 1, 1) := by decide +kernel
theorem dL_pass_2 : decode cL_pass 2 = .ok (.invokevirtual 106, 3) := by decide +kernel
theorem dL_pass_5 : decode cL_pass 5 = .ok (.ireturn, 1) := by decide +kernel
theorem dL_pass_6 : decode cL_pass 6 = .ok (.astore_n 2, 1) := by decide +kernel
theorem dL_pass_7 : decode cL_pass 7 = .ok (.sipush (-7800), 3) := by decide +kernel
theorem dL_pass_10 : decode cL_pass 10 = .ok (.ireturn, 1) := by decide +kernel
theorem dL_entryFigure_0 : decode cL_entryFigure 0 = .ok (.aload_n 0, 1) := by decide +kernel
theorem dL_entryFigure_1 : decode cL_entryFigure 1 = .ok (.iload_n 1, 1) := by decide +kernel
theorem dL_entryFigure_2 : decode cL_entryFigure 2 = .ok (.invokevirtual 109, 3) := by decide +kernel
theorem dL_entryFigure_5 : decode cL_entryFigure 5 = .ok (.ireturn, 1) := by decide +kernel
theorem dL_entryFigure_6 : decode cL_entryFigure 6 = .ok (.astore_n 2, 1) := by decide +kernel
theorem dL_entryFigure_7 : decode cL_entryFigure 7 = .ok (.sipush (-7700), 3) := by decide +kernel
theorem dL_entryFigure_10 : decode cL_entryFigure 10 = .ok (.ireturn, 1) := by decide +kernel
theorem dL_entryStart_0 : decode cL_entryStart 0 = .ok (.aload_n 0, 1) := by decide +kernel
theorem dL_entryStart_1 : decode cL_entryStart 1 = .ok (.iload_n 1, 1) := by decide +kernel
theorem dL_entryStart_2 : decode cL_entryStart 2 = .ok (.invokevirtual 112, 3) := by decide +kernel
theorem dL_entryStart_5 : decode cL_entryStart 5 = .ok (.ireturn, 1) := by decide +kernel
theorem dL_entryStart_6 : decode cL_entryStart 6 = .ok (.astore_n 2, 1) := by decide +kernel
theorem dL_entryStart_7 : decode cL_entryStart 7 = .ok (.sipush (-7700), 3) := by decide +kernel
theorem dL_entryStart_10 : decode cL_entryStart 10 = .ok (.ireturn, 1) := by decide +kernel
theorem dL_demandAfter_0 : decode cL_demandAfter 0 = .ok (.aload_n 0, 1) := by decide +kernel
theorem dL_demandAfter_1 : decode cL_demandAfter 1 = .ok (.iload_n 1, 1) := by decide +kernel
theorem dL_demandAfter_2 : decode cL_demandAfter 2 = .ok (.invokevirtual 115, 3) := by decide +kernel
theorem dL_demandAfter_5 : decode cL_demandAfter 5 = .ok (.ireturn, 1) := by decide +kernel
theorem dL_demandAfter_6 : decode cL_demandAfter 6 = .ok (.astore_n 2, 1) := by decide +kernel
theorem dL_demandAfter_7 : decode cL_demandAfter 7 = .ok (.sipush (-7800), 3) := by decide +kernel
theorem dL_demandAfter_10 : decode cL_demandAfter 10 = .ok (.ireturn, 1) := by decide +kernel
theorem dL_demandAfterBySteps_0 : decode cL_demandAfterBySteps 0 = .ok (.aload_n 0, 1) := by decide +kernel
theorem dL_demandAfterBySteps_1 : decode cL_demandAfterBySteps 1 = .ok (.iload_n 1, 1) := by decide +kernel
theorem dL_demandAfterBySteps_2 : decode cL_demandAfterBySteps 2 = .ok (.invokevirtual 118, 3) := by decide +kernel
theorem dL_demandAfterBySteps_5 : decode cL_demandAfterBySteps 5 = .ok (.ireturn, 1) := by decide +kernel
theorem dL_demandAfterBySteps_6 : decode cL_demandAfterBySteps 6 = .ok (.astore_n 2, 1) := by decide +kernel
theorem dL_demandAfterBySteps_7 : decode cL_demandAfterBySteps 7 = .ok (.sipush (-7800), 3) := by decide +kernel
theorem dL_demandAfterBySteps_10 : decode cL_demandAfterBySteps 10 = .ok (.ireturn, 1) := by decide +kernel
theorem dL_firstOverload_0 : decode cL_firstOverload 0 = .ok (.aload_n 0, 1) := by decide +kernel
theorem dL_firstOverload_1 : decode cL_firstOverload 1 = .ok (.iload_n 1, 1) := by decide +kernel
theorem dL_firstOverload_2 : decode cL_firstOverload 2 = .ok (.invokevirtual 121, 3) := by decide +kernel
theorem dL_firstOverload_5 : decode cL_firstOverload 5 = .ok (.ireturn, 1) := by decide +kernel
theorem dL_firstOverload_6 : decode cL_firstOverload 6 = .ok (.astore_n 2, 1) := by decide +kernel
theorem dL_firstOverload_7 : decode cL_firstOverload 7 = .ok (.sipush (-7800), 3) := by decide +kernel
theorem dL_firstOverload_10 : decode cL_firstOverload 10 = .ok (.ireturn, 1) := by decide +kernel
theorem dL_firstOverload_11 : decode cL_firstOverload 11 = .ok (.astore_n 2, 1) := by decide +kernel
theorem dL_firstOverload_12 : decode cL_firstOverload 12 = .ok (.sipush (-7500), 3) := by decide +kernel
theorem dL_firstOverload_15 : decode cL_firstOverload 15 = .ok (.ireturn, 1) := by decide +kernel
theorem dL_meanOpening_0 : decode cL_meanOpening 0 = .ok (.aload_n 0, 1) := by decide +kernel
theorem dL_meanOpening_1 : decode cL_meanOpening 1 = .ok (.invokevirtual 124, 3) := by decide +kernel
theorem dL_meanOpening_4 : decode cL_meanOpening 4 = .ok (.dreturn, 1) := by decide +kernel
theorem dL_meanOpening_5 : decode cL_meanOpening 5 = .ok (.astore_n 1, 1) := by decide +kernel
theorem dL_meanOpening_6 : decode cL_meanOpening 6 = .ok (.ldc2_w 130, 3) := by decide +kernel
theorem dL_meanOpening_9 : decode cL_meanOpening 9 = .ok (.dreturn, 1) := by decide +kernel
theorem dL_supplyFraction_0 : decode cL_supplyFraction 0 = .ok (.aload_n 0, 1) := by decide +kernel
theorem dL_supplyFraction_1 : decode cL_supplyFraction 1 = .ok (.invokevirtual 132, 3) := by decide +kernel
theorem dL_supplyFraction_4 : decode cL_supplyFraction 4 = .ok (.freturn, 1) := by decide +kernel
theorem dL_supplyFraction_5 : decode cL_supplyFraction 5 = .ok (.astore_n 1, 1) := by decide +kernel
theorem dL_supplyFraction_6 : decode cL_supplyFraction 6 = .ok (.ldc 136, 2) := by decide +kernel
theorem dL_supplyFraction_8 : decode cL_supplyFraction 8 = .ok (.freturn, 1) := by decide +kernel
theorem dL_writeFigure_0 : decode cL_writeFigure 0 = .ok (.aload_n 0, 1) := by decide +kernel
theorem dL_writeFigure_1 : decode cL_writeFigure 1 = .ok (.iload_n 1, 1) := by decide +kernel
theorem dL_writeFigure_2 : decode cL_writeFigure 2 = .ok (.invokevirtual 137, 3) := by decide +kernel
theorem dL_writeFigure_5 : decode cL_writeFigure 5 = .ok (.ireturn, 1) := by decide +kernel
theorem dL_writeFigure_6 : decode cL_writeFigure 6 = .ok (.astore_n 2, 1) := by decide +kernel
theorem dL_writeFigure_7 : decode cL_writeFigure 7 = .ok (.sipush (-7700), 3) := by decide +kernel
theorem dL_writeFigure_10 : decode cL_writeFigure 10 = .ok (.ireturn, 1) := by decide +kernel
theorem dL_outputCharacter_0 : decode cL_outputCharacter 0 = .ok (.aload_n 0, 1) := by decide +kernel
theorem dL_outputCharacter_1 : decode cL_outputCharacter 1 = .ok (.iload_n 1, 1) := by decide +kernel
theorem dL_outputCharacter_2 : decode cL_outputCharacter 2 = .ok (.invokevirtual 140, 3) := by decide +kernel
theorem dL_outputCharacter_5 : decode cL_outputCharacter 5 = .ok (.ireturn, 1) := by decide +kernel
theorem dL_outputCharacter_6 : decode cL_outputCharacter 6 = .ok (.astore_n 2, 1) := by decide +kernel
theorem dL_outputCharacter_7 : decode cL_outputCharacter 7 = .ok (.sipush (-7700), 3) := by decide +kernel
theorem dL_outputCharacter_10 : decode cL_outputCharacter 10 = .ok (.ireturn, 1) := by decide +kernel
theorem dL_feed_0 : decode cL_feed 0 = .ok (.aload_n 0, 1) := by decide +kernel
theorem dL_feed_1 : decode cL_feed 1 = .ok (.iload_n 1, 1) := by decide +kernel
theorem dL_feed_2 : decode cL_feed 2 = .ok (.invokevirtual 144, 3) := by decide +kernel
theorem dL_feed_5 : decode cL_feed 5 = .ok (.ireturn, 1) := by decide +kernel
theorem dL_feed_6 : decode cL_feed 6 = .ok (.astore_n 2, 1) := by decide +kernel
theorem dL_feed_7 : decode cL_feed 7 = .ok (.sipush (-7900), 3) := by decide +kernel
theorem dL_feed_10 : decode cL_feed 10 = .ok (.ireturn, 1) := by decide +kernel
theorem dL_execute_0 : decode cL_execute 0 = .ok (.aload_n 0, 1) := by decide +kernel
theorem dL_execute_1 : decode cL_execute 1 = .ok (.invokevirtual 148, 3) := by decide +kernel
theorem dL_execute_4 : decode cL_execute 4 = .ok (.ireturn, 1) := by decide +kernel
theorem dL_execute_5 : decode cL_execute 5 = .ok (.astore_n 1, 1) := by decide +kernel
theorem dL_execute_6 : decode cL_execute 6 = .ok (.sipush (-7800), 3) := by decide +kernel
theorem dL_execute_9 : decode cL_execute 9 = .ok (.ireturn, 1) := by decide +kernel
theorem dL_execute_10 : decode cL_execute 10 = .ok (.astore_n 1, 1) := by decide +kernel
theorem dL_execute_11 : decode cL_execute 11 = .ok (.sipush (-7600), 3) := by decide +kernel
theorem dL_execute_14 : decode cL_execute 14 = .ok (.ireturn, 1) := by decide +kernel
theorem dL_undo_0 : decode cL_undo 0 = .ok (.aload_n 0, 1) := by decide +kernel
theorem dL_undo_1 : decode cL_undo 1 = .ok (.invokevirtual 157, 3) := by decide +kernel
theorem dL_undo_4 : decode cL_undo 4 = .ok (.ireturn, 1) := by decide +kernel
theorem dL_undo_5 : decode cL_undo 5 = .ok (.astore_n 1, 1) := by decide +kernel
theorem dL_undo_6 : decode cL_undo 6 = .ok (.sipush (-7900), 3) := by decide +kernel
theorem dL_undo_9 : decode cL_undo 9 = .ok (.ireturn, 1) := by decide +kernel
theorem dL_restore_0 : decode cL_restore 0 = .ok (.aload_n 0, 1) := by decide +kernel
theorem dL_restore_1 : decode cL_restore 1 = .ok (.invokevirtual 160, 3) := by decide +kernel
theorem dL_restore_4 : decode cL_restore 4 = .ok (.ireturn, 1) := by decide +kernel
theorem dL_restore_5 : decode cL_restore 5 = .ok (.astore_n 1, 1) := by decide +kernel
theorem dL_restore_6 : decode cL_restore 6 = .ok (.sipush (-7900), 3) := by decide +kernel
theorem dL_restore_9 : decode cL_restore 9 = .ok (.ireturn, 1) := by decide +kernel
theorem dL_runs_0 : decode cL_runs 0 = .ok (.iconst 0, 1) := by decide +kernel
theorem dL_runs_1 : decode cL_runs 1 = .ok (.istore_n 2, 1) := by decide +kernel
theorem dL_runs_2 : decode cL_runs 2 = .ok (.iload_n 2, 1) := by decide +kernel
theorem dL_runs_3 : decode cL_runs 3 = .ok (.aload_n 1, 1) := by decide +kernel
theorem dL_runs_4 : decode cL_runs 4 = .ok (.invokevirtual 163, 3) := by decide +kernel
theorem dL_runs_7 : decode cL_runs 7 = .ok (.if_icmp .ge 19, 3) := by decide +kernel
theorem dL_runs_10 : decode cL_runs 10 = .ok (.aload_n 0, 1) := by decide +kernel
theorem dL_runs_11 : decode cL_runs 11 = .ok (.aload_n 1, 1) := by decide +kernel
theorem dL_runs_12 : decode cL_runs 12 = .ok (.iload_n 2, 1) := by decide +kernel
theorem dL_runs_13 : decode cL_runs 13 = .ok (.invokevirtual 168, 3) := by decide +kernel
theorem dL_runs_16 : decode cL_runs 16 = .ok (.invokestatic 171, 3) := by decide +kernel
theorem dL_runs_19 : decode cL_runs 19 = .ok (.istore_n 3, 1) := by decide +kernel
theorem dL_runs_20 : decode cL_runs 20 = .ok (.iinc 2 1, 3) := by decide +kernel
theorem dL_runs_23 : decode cL_runs 23 = .ok (.goto (-21), 3) := by decide +kernel
theorem dL_runs_26 : decode cL_runs 26 = .ok (.aload_n 0, 1) := by decide +kernel
theorem dL_runs_27 : decode cL_runs 27 = .ok (.invokestatic 174, 3) := by decide +kernel
theorem dL_runs_30 : decode cL_runs 30 = .ok (.ireturn, 1) := by decide +kernel
