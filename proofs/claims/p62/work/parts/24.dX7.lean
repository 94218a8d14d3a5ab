theorem dX7_init_0 : decode cX7_init 0 = .ok (.aload_n 0, 1) := by decide +kernel
theorem dX7_init_1 : decode cX7_init 1 = .ok (.invokespecial 3, 3) := by decide +kernel
theorem dX7_init_4 : decode cX7_init 4 = .ok (.aload_n 0, 1) := by decide +kernel
theorem dX7_init_5 : decode cX7_init 5 = .ok (.new 9, 3) := by decide +kernel
theorem dX7_init_8 : decode cX7_init 8 = .ok (.dup, 1) := by decide +kernel
theorem dX7_init_9 : decode cX7_init 9 = .ok (.invokespecial 11, 3) := by decide +kernel
theorem dX7_init_12 : decode cX7_init 12 = .ok (.putfield 12, 3) := by decide +kernel
theorem dX7_init_15 : decode cX7_init 15 = .ok (.aload_n 0, 1) := by decide +kernel
theorem dX7_init_16 : decode cX7_init 16 = .ok (.new 18, 3) := by decide +kernel
theorem dX7_init_19 : decode cX7_init 19 = .ok (.dup, 1) := by decide +kernel
theorem dX7_init_20 : decode cX7_init 20 = .ok (.invokespecial 20, 3) := by decide +kernel
theorem dX7_init_23 : decode cX7_init 23 = .ok (.putfield 21, 3) := by decide +kernel
theorem dX7_init_26 : decode cX7_init 26 = .ok (.aload_n 0, 1) := by decide +kernel
theorem dX7_init_27 : decode cX7_init 27 = .ok (.bipush 6, 2) := by decide +kernel
theorem dX7_init_29 : decode cX7_init 29 = .ok (.newarray .int, 2) := by decide +kernel
theorem dX7_init_31 : decode cX7_init 31 = .ok (.putfield 25, 3) := by decide +kernel
theorem dX7_init_34 : decode cX7_init 34 = .ok (.aload_n 0, 1) := by decide +kernel
theorem dX7_init_35 : decode cX7_init 35 = .ok (.bipush 6, 2) := by decide +kernel
theorem dX7_init_37 : decode cX7_init 37 = .ok (.newarray .int, 2) := by decide +kernel
theorem dX7_init_39 : decode cX7_init 39 = .ok (.putfield 29, 3) := by decide +kernel
theorem dX7_init_42 : decode cX7_init 42 = .ok (.aload_n 0, 1) := by decide +kernel
theorem dX7_init_43 : decode cX7_init 43 = .ok (.iconst 0, 1) := by decide +kernel
theorem dX7_init_44 : decode cX7_init 44 = .ok (.putfield 32, 3) := by decide +kernel
theorem dX7_init_47 : decode cX7_init 47 = .ok (.aload_n 0, 1) := by decide +kernel
theorem dX7_init_48 : decode cX7_init 48 = .ok (.iconst 0, 1) := by decide +kernel
theorem dX7_init_49 : decode cX7_init 49 = .ok (.putfield 36, 3) := by decide +kernel
theorem dX7_init_52 : decode cX7_init 52 = .ok (.aload_n 0, 1) := by decide +kernel
theorem dX7_init_53 : decode cX7_init 53 = .ok (.lconst 0, 1) := by decide +kernel
theorem dX7_init_54 : decode cX7_init 54 = .ok (.putfield 39, 3) := by decide +kernel
theorem dX7_init_57 : decode cX7_init 57 = .ok (.aload_n 0, 1) := by decide +kernel
theorem dX7_init_58 : decode cX7_init 58 = .ok (.lconst 0, 1) := by decide +kernel
theorem dX7_init_59 : decode cX7_init 59 = .ok (.putfield 43, 3) := by decide +kernel
theorem dX7_init_62 : decode cX7_init 62 = .ok (.return_, 1) := by decide +kernel
theorem dX7_copyFrom_0 : decode cX7_copyFrom 0 = .ok (.aload_n 0, 1) := by decide +kernel
theorem dX7_copyFrom_1 : decode cX7_copyFrom 1 = .ok (.getfield 12, 3) := by decide +kernel
theorem dX7_copyFrom_4 : decode cX7_copyFrom 4 = .ok (.aload_n 1, 1) := by decide +kernel
theorem dX7_copyFrom_5 : decode cX7_copyFrom 5 = .ok (.getfield 12, 3) := by decide +kernel
theorem dX7_copyFrom_8 : decode cX7_copyFrom 8 = .ok (.invokevirtual 46, 3) := by decide +kernel
theorem dX7_copyFrom_11 : decode cX7_copyFrom 11 = .ok (.aload_n 0, 1) := by decide +kernel
theorem dX7_copyFrom_12 : decode cX7_copyFrom 12 = .ok (.getfield 21, 3) := by decide +kernel
theorem dX7_copyFrom_15 : decode cX7_copyFrom 15 = .ok (.aload_n 1, 1) := by decide +kernel
theorem dX7_copyFrom_16 : decode cX7_copyFrom 16 = .ok (.getfield 21, 3) := by decide +kernel
theorem dX7_copyFrom_19 : decode cX7_copyFrom 19 = .ok (.invokevirtual 50, 3) := by decide +kernel
theorem dX7_copyFrom_22 : decode cX7_copyFrom 22 = .ok (.aload_n 1, 1) := by decide +kernel
theorem dX7_copyFrom_23 : decode cX7_copyFrom 23 = .ok (.getfield 25, 3) := by decide +kernel
theorem dX7_copyFrom_26 : decode cX7_copyFrom 26 = .ok (.iconst 0, 1) := by decide +kernel
theorem dX7_copyFrom_27 : decode cX7_copyFrom 27 = .ok (.aload_n 0, 1) := by decide +kernel
theorem dX7_copyFrom_28 : decode cX7_copyFrom 28 = .ok (.getfield 25, 3) := by decide +kernel
theorem dX7_copyFrom_31 : decode cX7_copyFrom 31 = .ok (.iconst 0, 1) := by decide +kernel
theorem dX7_copyFrom_32 : decode cX7_copyFrom 32 = .ok (.bipush 6, 2) := by decide +kernel
theorem dX7_copyFrom_34 : decode cX7_copyFrom 34 = .ok (.invokestatic 53, 3) := by decide +kernel
theorem dX7_copyFrom_37 : decode cX7_copyFrom 37 = .ok (.aload_n 1, 1) := by decide +kernel
theorem dX7_copyFrom_38 : decode cX7_copyFrom 38 = .ok (.getfield 29, 3) := by decide +kernel
theorem dX7_copyFrom_41 : decode cX7_copyFrom 41 = .ok (.iconst 0, 1) := by decide +kernel
theorem dX7_copyFrom_42 : decode cX7_copyFrom 42 = .ok (.aload_n 0, 1) := by decide +kernel
theorem dX7_copyFrom_43 : decode cX7_copyFrom 43 = .ok (.getfield 29, 3) := by decide +kernel
theorem dX7_copyFrom_46 : decode cX7_copyFrom 46 = .ok (.iconst 0, 1) := by decide +kernel
theorem dX7_copyFrom_47 : decode cX7_copyFrom 47 = .ok (.bipush 6, 2) := by decide +kernel
theorem dX7_copyFrom_49 : decode cX7_copyFrom 49 = .ok (.invokestatic 53, 3) := by decide +kernel
theorem dX7_copyFrom_52 : decode cX7_copyFrom 52 = .ok (.aload_n 0, 1) := by decide +kernel
theorem dX7_copyFrom_53 : decode cX7_copyFrom 53 = .ok (.aload_n 1, 1) := by decide +kernel
theorem dX7_copyFrom_54 : decode cX7_copyFrom 54 = .ok (.getfield 32, 3) := by decide +kernel
theorem dX7_copyFrom_57 : decode cX7_copyFrom 57 = .ok (.putfield 32, 3) := by decide +kernel
theorem dX7_copyFrom_60 : decode cX7_copyFrom 60 = .ok (.aload_n 0, 1) := by decide +kernel
theorem dX7_copyFrom_61 : decode cX7_copyFrom 61 = .ok (.aload_n 1, 1) := by decide +kernel
theorem dX7_copyFrom_62 : decode cX7_copyFrom 62 = .ok (.getfield 36, 3) := by decide +kernel
theorem dX7_copyFrom_65 : decode cX7_copyFrom 65 = .ok (.putfield 36, 3) := by decide +kernel
theorem dX7_copyFrom_68 : decode cX7_copyFrom 68 = .ok (.aload_n 0, 1) := by decide +kernel
theorem dX7_copyFrom_69 : decode cX7_copyFrom 69 = .ok (.aload_n 1, 1) := by decide +kernel
theorem dX7_copyFrom_70 : decode cX7_copyFrom 70 = .ok (.getfield 39, 3) := by decide +kernel
theorem dX7_copyFrom_73 : decode cX7_copyFrom 73 = .ok (.putfield 39, 3) := by decide +kernel
theorem dX7_copyFrom_76 : decode cX7_copyFrom 76 = .ok (.aload_n 0, 1) := by decide +kernel
theorem dX7_copyFrom_77 : decode cX7_copyFrom 77 = .ok (.aload_n 1, 1) := by decide +kernel
theorem dX7_copyFrom_78 : decode cX7_copyFrom 78 = .ok (.getfield 43, 3) := by decide +kernel
theorem dX7_copyFrom_81 : decode cX7_copyFrom 81 = .ok (.putfield 43, 3) := by decide +kernel
theorem dX7_copyFrom_84 : decode cX7_copyFrom 84 = .ok (.return_, 1) := by decide +kernel
theorem dX7_dropJet_0 : decode cX7_dropJet 0 = .ok (.aload_n 0, 1) := by decide +kernel
theorem dX7_dropJet_1 : decode cX7_dropJet 1 = .ok (.getfield 12, 3) := by decide +kernel
theorem dX7_dropJet_4 : decode cX7_dropJet 4 = .ok (.iload_n 1, 1) := by decide +kernel
theorem dX7_dropJet_5 : decode cX7_dropJet 5 = .ok (.invokevirtual 59, 3) := by decide +kernel
theorem dX7_dropJet_8 : decode cX7_dropJet 8 = .ok (.aload_n 0, 1) := by decide +kernel
theorem dX7_dropJet_9 : decode cX7_dropJet 9 = .ok (.getfield 21, 3) := by decide +kernel
theorem dX7_dropJet_12 : decode cX7_dropJet 12 = .ok (.iload_n 1, 1) := by decide +kernel
theorem dX7_dropJet_13 : decode cX7_dropJet 13 = .ok (.invokevirtual 63, 3) := by decide +kernel
theorem dX7_dropJet_16 : decode cX7_dropJet 16 = .ok (.ireturn, 1) := by decide +kernel
theorem dX7_problemOfDroppingFigure_0 : decode cX7_problemOfDroppingFigure 0 = .ok (.aload_n 0, 1) := by decide +kernel
theorem dX7_problemOfDroppingFigure_1 : decode cX7_problemOfDroppingFigure 1 = .ok (.getfield 21, 3) := by decide +kernel
theorem dX7_problemOfDroppingFigure_4 : decode cX7_problemOfDroppingFigure 4 = .ok (.iload_n 1, 1) := by decide +kernel
theorem dX7_problemOfDroppingFigure_5 : decode cX7_problemOfDroppingFigure 5 = .ok (.invokevirtual 67, 3) := by decide +kernel
theorem dX7_problemOfDroppingFigure_8 : decode cX7_problemOfDroppingFigure 8 = .ok (.ifCond .ne 7, 3) := by decide +kernel
theorem dX7_problemOfDroppingFigure_11 : decode cX7_problemOfDroppingFigure 11 = .ok (.getstatic 71, 3) := by decide +kernel
theorem dX7_problemOfDroppingFigure_14 : decode cX7_problemOfDroppingFigure 14 = .ok (.areturn, 1) := by decide +kernel
theorem dX7_problemOfDroppingFigure_15 : decode cX7_problemOfDroppingFigure 15 = .ok (.iconst 0, 1) := by decide +kernel
theorem dX7_problemOfDroppingFigure_16 : decode cX7_problemOfDroppingFigure 16 = .ok (.istore_n 2, 1) := by decide +kernel
theorem dX7_problemOfDroppingFigure_17 : decode cX7_problemOfDroppingFigure 17 = .ok (.iload_n 2, 1) := by decide +kernel
theorem dX7_problemOfDroppingFigure_18 : decode cX7_problemOfDroppingFigure 18 = .ok (.aload_n 0, 1) := by decide +kernel
theorem dX7_problemOfDroppingFigure_19 : decode cX7_problemOfDroppingFigure 19 = .ok (.getfield 32, 3) := by decide +kernel
theorem dX7_problemOfDroppingFigure_22 : decode cX7_problemOfDroppingFigure 22 = .ok (.if_icmp .ge 23, 3) := by decide +kernel
theorem dX7_problemOfDroppingFigure_25 : decode cX7_problemOfDroppingFigure 25 = .ok (.aload_n 0, 1) := by decide +kernel
theorem dX7_problemOfDroppingFigure_26 : decode cX7_problemOfDroppingFigure 26 = .ok (.getfield 25, 3) := by decide +kernel
theorem dX7_problemOfDroppingFigure_29 : decode cX7_problemOfDroppingFigure 29 = .ok (.iload_n 2, 1) := by decide +kernel
theorem dX7_problemOfDroppingFigure_30 : decode cX7_problemOfDroppingFigure 30 = .ok (.iaload, 1) := by decide +kernel
theorem dX7_problemOfDroppingFigure_31 : decode cX7_problemOfDroppingFigure 31 = .ok (.iload_n 1, 1) := by decide +kernel
theorem dX7_problemOfDroppingFigure_32 : decode cX7_problemOfDroppingFigure 32 = .ok (.if_icmp .ne 7, 3) := by decide +kernel
theorem dX7_problemOfDroppingFigure_35 : decode cX7_problemOfDroppingFigure 35 = .ok (.getstatic 77, 3) := by decide +kernel
theorem dX7_problemOfDroppingFigure_38 : decode cX7_problemOfDroppingFigure 38 = .ok (.areturn, 1) := by decide +kernel
theorem dX7_problemOfDroppingFigure_39 : decode cX7_problemOfDroppingFigure 39 = .ok (.iinc 2 1, 3) := by decide +kernel
theorem dX7_problemOfDroppingFigure_42 : decode cX7_problemOfDroppingFigure 42 = .ok (.goto (-25), 3) := by decide +kernel
theorem dX7_problemOfDroppingFigure_45 : decode cX7_problemOfDroppingFigure 45 = .ok (.getstatic 80, 3) := by decide +kernel
theorem dX7_problemOfDroppingFigure_48 : decode cX7_problemOfDroppingFigure 48 = .ok (.areturn, 1) := by decide +kernel
theorem dX7_dropFigure_0 : decode cX7_dropFigure 0 = .ok (.iconst 0, 1) := by decide +kernel
theorem dX7_dropFigure_1 : decode cX7_dropFigure 1 = .ok (.istore_n 2, 1) := by decide +kernel
theorem dX7_dropFigure_2 : decode cX7_dropFigure 2 = .ok (.iload_n 2, 1) := by decide +kernel
theorem dX7_dropFigure_3 : decode cX7_dropFigure 3 = .ok (.aload_n 0, 1) := by decide +kernel
theorem dX7_dropFigure_4 : decode cX7_dropFigure 4 = .ok (.getfield 32, 3) := by decide +kernel
theorem dX7_dropFigure_7 : decode cX7_dropFigure 7 = .ok (.if_icmp .ge 29, 3) := by decide +kernel
theorem dX7_dropFigure_10 : decode cX7_dropFigure 10 = .ok (.aload_n 0, 1) := by decide +kernel
theorem dX7_dropFigure_11 : decode cX7_dropFigure 11 = .ok (.getfield 25, 3) := by decide +kernel
theorem dX7_dropFigure_14 : decode cX7_dropFigure 14 = .ok (.iload_n 2, 1) := by decide +kernel
theorem dX7_dropFigure_15 : decode cX7_dropFigure 15 = .ok (.iaload, 1) := by decide +kernel
theorem dX7_dropFigure_16 : decode cX7_dropFigure 16 = .ok (.iload_n 1, 1) := by decide +kernel
theorem dX7_dropFigure_17 : decode cX7_dropFigure 17 = .ok (.if_icmp .le 13, 3) := by decide +kernel
theorem dX7_dropFigure_20 : decode cX7_dropFigure 20 = .ok (.aload_n 0, 1) := by decide +kernel
theorem dX7_dropFigure_21 : decode cX7_dropFigure 21 = .ok (.getfield 25, 3) := by decide +kernel
theorem dX7_dropFigure_24 : decode cX7_dropFigure 24 = .ok (.iload_n 2, 1) := by decide +kernel
theorem dX7_dropFigure_25 : decode cX7_dropFigure 25 = .ok (.dup2, 1) := by decide +kernel
theorem dX7_dropFigure_26 : decode cX7_dropFigure 26 = .ok (.iaload, 1) := by decide +kernel
theorem dX7_dropFigure_27 : decode cX7_dropFigure 27 = .ok (.iconst 1, 1) := by decide +kernel
theorem dX7_dropFigure_28 : decode cX7_dropFigure 28 = .ok (.isub, 1) := by decide +kernel
theorem dX7_dropFigure_29 : decode cX7_dropFigure 29 = .ok (.iastore, 1) := by decide +kernel
theorem dX7_dropFigure_30 : decode cX7_dropFigure 30 = .ok (.iinc 2 1, 3) := by decide +kernel
theorem dX7_dropFigure_33 : decode cX7_dropFigure 33 = .ok (.goto (-31), 3) := by decide +kernel
theorem dX7_dropFigure_36 : decode cX7_dropFigure 36 = .ok (.aload_n 0, 1) := by decide +kernel
theorem dX7_dropFigure_37 : decode cX7_dropFigure 37 = .ok (.getfield 21, 3) := by decide +kernel
theorem dX7_dropFigure_40 : decode cX7_dropFigure 40 = .ok (.iload_n 1, 1) := by decide +kernel
theorem dX7_dropFigure_41 : decode cX7_dropFigure 41 = .ok (.invokevirtual 83, 3) := by decide +kernel
theorem dX7_dropFigure_44 : decode cX7_dropFigure 44 = .ok (.ireturn, 1) := by decide +kernel
theorem dX7_problemOfStep_0 : decode cX7_problemOfStep 0 = .ok (.aload_n 0, 1) := by decide +kernel
theorem dX7_problemOfStep_1 : decode cX7_problemOfStep 1 = .ok (.getfield 21, 3) := by decide +kernel
theorem dX7_problemOfStep_4 : decode cX7_problemOfStep 4 = .ok (.iload_n 1, 1) := by decide +kernel
theorem dX7_problemOfStep_5 : decode cX7_problemOfStep 5 = .ok (.invokevirtual 67, 3) := by decide +kernel
theorem dX7_problemOfStep_8 : decode cX7_problemOfStep 8 = .ok (.ifCond .eq 14, 3) := by decide +kernel
theorem dX7_problemOfStep_11 : decode cX7_problemOfStep 11 = .ok (.aload_n 0, 1) := by decide +kernel
theorem dX7_problemOfStep_12 : decode cX7_problemOfStep 12 = .ok (.getfield 12, 3) := by decide +kernel
theorem dX7_problemOfStep_15 : decode cX7_problemOfStep 15 = .ok (.iload_n 3, 1) := by decide +kernel
theorem dX7_problemOfStep_16 : decode cX7_problemOfStep 16 = .ok (.invokevirtual 85, 3) := by decide +kernel
theorem dX7_problemOfStep_19 : decode cX7_problemOfStep 19 = .ok (.ifCond .ne 7, 3) := by decide +kernel
theorem dX7_problemOfStep_22 : decode cX7_problemOfStep 22 = .ok (.getstatic 71, 3) := by decide +kernel
theorem dX7_problemOfStep_25 : decode cX7_problemOfStep 25 = .ok (.areturn, 1) := by decide +kernel
theorem dX7_problemOfStep_26 : decode cX7_problemOfStep 26 = .ok (.iload_n 2, 1) := by decide +kernel
theorem dX7_problemOfStep_27 : decode cX7_problemOfStep 27 = .ok (.ifCond .lt 21, 3) := by decide +kernel
theorem dX7_problemOfStep_30 : decode cX7_problemOfStep 30 = .ok (.iload_n 2, 1) := by decide +kernel
theorem dX7_problemOfStep_31 : decode cX7_problemOfStep 31 = .ok (.bipush 20, 2) := by decide +kernel
theorem dX7_problemOfStep_33 : decode cX7_problemOfStep 33 = .ok (.if_icmp .gt 15, 3) := by decide +kernel
theorem dX7_problemOfStep_36 : decode cX7_problemOfStep 36 = .ok (.iload 4, 2) := by decide +kernel
theorem dX7_problemOfStep_38 : decode cX7_problemOfStep 38 = .ok (.ifCond .lt 10, 3) := by decide +kernel
theorem dX7_problemOfStep_41 : decode cX7_problemOfStep 41 = .ok (.iload 4, 2) := by decide +kernel
theorem dX7_problemOfStep_43 : decode cX7_problemOfStep 43 = .ok (.bipush 10, 2) := by decide +kernel
theorem dX7_problemOfStep_45 : decode cX7_problemOfStep 45 = .ok (.if_icmp .le 7, 3) := by decide +kernel
theorem dX7_problemOfStep_48 : decode cX7_problemOfStep 48 = .ok (.getstatic 86, 3) := by decide +kernel
theorem dX7_problemOfStep_51 : decode cX7_problemOfStep 51 = .ok (.areturn, 1) := by decide +kernel
theorem dX7_problemOfStep_52 : decode cX7_problemOfStep 52 = .ok (.aload_n 0, 1) := by decide +kernel
theorem dX7_problemOfStep_53 : decode cX7_problemOfStep 53 = .ok (.getfield 21, 3) := by decide +kernel
theorem dX7_problemOfStep_56 : decode cX7_problemOfStep 56 = .ok (.getfield 89, 3) := by decide +kernel
theorem dX7_problemOfStep_59 : decode cX7_problemOfStep 59 = .ok (.iload_n 1, 1) := by decide +kernel
theorem dX7_problemOfStep_60 : decode cX7_problemOfStep 60 = .ok (.iaload, 1) := by decide +kernel
theorem dX7_problemOfStep_61 : decode cX7_problemOfStep 61 = .ok (.bipush 8, 2) := by decide +kernel
theorem dX7_problemOfStep_63 : decode cX7_problemOfStep 63 = .ok (.if_icmp .ge 9, 3) := by decide +kernel
theorem dX7_problemOfStep_66 : decode cX7_problemOfStep 66 = .ok (.getstatic 80, 3) := by decide +kernel
theorem dX7_problemOfStep_69 : decode cX7_problemOfStep 69 = .ok (.goto 6, 3) := by decide +kernel
theorem dX7_problemOfStep_72 : decode cX7_problemOfStep 72 = .ok (.getstatic 77, 3) := by decide +kernel
theorem dX7_problemOfStep_75 : decode cX7_problemOfStep 75 = .ok (.areturn, 1) := by decide +kernel
theorem dX7_problemOfPlaying_0 : decode cX7_problemOfPlaying 0 = .ok (.aload_n 0, 1) := by decide +kernel
theorem dX7_problemOfPlaying_1 : decode cX7_problemOfPlaying 1 = .ok (.getfield 21, 3) := by decide +kernel
theorem dX7_problemOfPlaying_4 : decode cX7_problemOfPlaying 4 = .ok (.iload_n 1, 1) := by decide +kernel
theorem dX7_problemOfPlaying_5 : decode cX7_problemOfPlaying 5 = .ok (.invokevirtual 67, 3) := by decide +kernel
theorem dX7_problemOfPlaying_8 : decode cX7_problemOfPlaying 8 = .ok (.ifCond .ne 7, 3) := by decide +kernel
theorem dX7_problemOfPlaying_11 : decode cX7_problemOfPlaying 11 = .ok (.getstatic 71, 3) := by decide +kernel
theorem dX7_problemOfPlaying_14 : decode cX7_problemOfPlaying 14 = .ok (.areturn, 1) := by decide +kernel
theorem dX7_problemOfPlaying_15 : decode cX7_problemOfPlaying 15 = .ok (.iload_n 2, 1) := by decide +kernel
theorem dX7_problemOfPlaying_16 : decode cX7_problemOfPlaying 16 = .ok (.iconst 1, 1) := by decide +kernel
theorem dX7_problemOfPlaying_17 : decode cX7_problemOfPlaying 17 = .ok (.if_icmp .lt 9, 3) := by decide +kernel
theorem dX7_problemOfPlaying_20 : decode cX7_problemOfPlaying 20 = .ok (.iload_n 2, 1) := by decide +kernel
theorem dX7_problemOfPlaying_21 : decode cX7_problemOfPlaying 21 = .ok (.bipush 30, 2) := by decide +kernel
theorem dX7_problemOfPlaying_23 : decode cX7_problemOfPlaying 23 = .ok (.if_icmp .le 7, 3) := by decide +kernel
theorem dX7_problemOfPlaying_26 : decode cX7_problemOfPlaying 26 = .ok (.getstatic 86, 3) := by decide +kernel
theorem dX7_problemOfPlaying_29 : decode cX7_problemOfPlaying 29 = .ok (.areturn, 1) := by decide +kernel
theorem dX7_problemOfPlaying_30 : decode cX7_problemOfPlaying 30 = .ok (.aload_n 0, 1) := by decide +kernel
theorem dX7_problemOfPlaying_31 : decode cX7_problemOfPlaying 31 = .ok (.getfield 32, 3) := by decide +kernel
theorem dX7_problemOfPlaying_34 : decode cX7_problemOfPlaying 34 = .ok (.bipush 6, 2) := by decide +kernel
theorem dX7_problemOfPlaying_36 : decode cX7_problemOfPlaying 36 = .ok (.if_icmp .ge 9, 3) := by decide +kernel
theorem dX7_problemOfPlaying_39 : decode cX7_problemOfPlaying 39 = .ok (.getstatic 80, 3) := by decide +kernel
theorem dX7_problemOfPlaying_42 : decode cX7_problemOfPlaying 42 = .ok (.goto 6, 3) := by decide +kernel
theorem dX7_problemOfPlaying_45 : decode cX7_problemOfPlaying 45 = .ok (.getstatic 77, 3) := by decide +kernel
theorem dX7_problemOfPlaying_48 : decode cX7_problemOfPlaying 48 = .ok (.areturn, 1) := by decide +kernel
theorem dX7_appendEntry_0 : decode cX7_appendEntry 0 = .ok (.aload_n 0, 1) := by decide +kernel
theorem dX7_appendEntry_1 : decode cX7_appendEntry 1 = .ok (.getfield 36, 3) := by decide +kernel
theorem dX7_appendEntry_4 : decode cX7_appendEntry 4 = .ok (.iload_n 2, 1) := by decide +kernel
theorem dX7_appendEntry_5 : decode cX7_appendEntry 5 = .ok (.iadd, 1) := by decide +kernel
theorem dX7_appendEntry_6 : decode cX7_appendEntry 6 = .ok (.istore_n 3, 1) := by decide +kernel
theorem dX7_appendEntry_7 : decode cX7_appendEntry 7 = .ok (.aload_n 0, 1) := by decide +kernel
theorem dX7_appendEntry_8 : decode cX7_appendEntry 8 = .ok (.getfield 25, 3) := by decide +kernel
theorem dX7_appendEntry_11 : decode cX7_appendEntry 11 = .ok (.aload_n 0, 1) := by decide +kernel
theorem dX7_appendEntry_12 : decode cX7_appendEntry 12 = .ok (.getfield 32, 3) := by decide +kernel
theorem dX7_appendEntry_15 : decode cX7_appendEntry 15 = .ok (.iload_n 1, 1) := by decide +kernel
theorem dX7_appendEntry_16 : decode cX7_appendEntry 16 = .ok (.iastore, 1) := by decide +kernel
theorem dX7_appendEntry_17 : decode cX7_appendEntry 17 = .ok (.aload_n 0, 1) := by decide +kernel
theorem dX7_appendEntry_18 : decode cX7_appendEntry 18 = .ok (.getfield 29, 3) := by decide +kernel
theorem dX7_appendEntry_21 : decode cX7_appendEntry 21 = .ok (.aload_n 0, 1) := by decide +kernel
theorem dX7_appendEntry_22 : decode cX7_appendEntry 22 = .ok (.getfield 32, 3) := by decide +kernel
theorem dX7_appendEntry_25 : decode cX7_appendEntry 25 = .ok (.iload_n 3, 1) := by decide +kernel
theorem dX7_appendEntry_26 : decode cX7_appendEntry 26 = .ok (.iastore, 1) := by decide +kernel
theorem dX7_appendEntry_27 : decode cX7_appendEntry 27 = .ok (.aload_n 0, 1) := by decide +kernel
theorem dX7_appendEntry_28 : decode cX7_appendEntry 28 = .ok (.dup, 1) := by decide +kernel
theorem dX7_appendEntry_29 : decode cX7_appendEntry 29 = .ok (.getfield 32, 3) := by decide +kernel
theorem dX7_appendEntry_32 : decode cX7_appendEntry 32 = .ok (.iconst 1, 1) := by decide +kernel
theorem dX7_appendEntry_33 : decode cX7_appendEntry 33 = .ok (.iadd, 1) := by decide +kernel
theorem dX7_appendEntry_34 : decode cX7_appendEntry 34 = .ok (.putfield 32, 3) := by decide +kernel
theorem dX7_appendEntry_37 : decode cX7_appendEntry 37 = .ok (.iload_n 3, 1) := by decide +kernel
theorem dX7_appendEntry_38 : decode cX7_appendEntry 38 = .ok (.ireturn, 1) := by decide +kernel
theorem dX7_dropEntry_0 : decode cX7_dropEntry 0 = .ok (.aload_n 0, 1) := by decide +kernel
theorem dX7_dropEntry_1 : decode cX7_dropEntry 1 = .ok (.getfield 29, 3) := by decide +kernel
theorem dX7_dropEntry_4 : decode cX7_dropEntry 4 = .ok (.iload_n 1, 1) := by decide +kernel
theorem dX7_dropEntry_5 : decode cX7_dropEntry 5 = .ok (.iaload, 1) := by decide +kernel
theorem dX7_dropEntry_6 : decode cX7_dropEntry 6 = .ok (.istore_n 2, 1) := by decide +kernel
theorem dX7_dropEntry_7 : decode cX7_dropEntry 7 = .ok (.aload_n 0, 1) := by decide +kernel
theorem dX7_dropEntry_8 : decode cX7_dropEntry 8 = .ok (.dup, 1) := by decide +kernel
theorem dX7_dropEntry_9 : decode cX7_dropEntry 9 = .ok (.getfield 32, 3) := by decide +kernel
theorem dX7_dropEntry_12 : decode cX7_dropEntry 12 = .ok (.iconst 1, 1) := by decide +kernel
theorem dX7_dropEntry_13 : decode cX7_dropEntry 13 = .ok (.isub, 1) := by decide +kernel
theorem dX7_dropEntry_14 : decode cX7_dropEntry 14 = .ok (.putfield 32, 3) := by decide +kernel
theorem dX7_dropEntry_17 : decode cX7_dropEntry 17 = .ok (.iload_n 1, 1) := by decide +kernel
theorem dX7_dropEntry_18 : decode cX7_dropEntry 18 = .ok (.istore_n 3, 1) := by decide +kernel
theorem dX7_dropEntry_19 : decode cX7_dropEntry 19 = .ok (.iload_n 3, 1) := by decide +kernel
theorem dX7_dropEntry_20 : decode cX7_dropEntry 20 = .ok (.aload_n 0, 1) := by decide +kernel
theorem dX7_dropEntry_21 : decode cX7_dropEntry 21 = .ok (.getfield 32, 3) := by decide +kernel
theorem dX7_dropEntry_24 : decode cX7_dropEntry 24 = .ok (.if_icmp .ge 17, 3) := by decide +kernel
theorem dX7_dropEntry_27 : decode cX7_dropEntry 27 = .ok (.aload_n 0, 1) := by decide +kernel
theorem dX7_dropEntry_28 : decode cX7_dropEntry 28 = .ok (.iload_n 3, 1) := by decide +kernel
theorem dX7_dropEntry_29 : decode cX7_dropEntry 29 = .ok (.iconst 1, 1) := by decide +kernel
theorem dX7_dropEntry_30 : decode cX7_dropEntry 30 = .ok (.iadd, 1) := by decide +kernel
theorem dX7_dropEntry_31 : decode cX7_dropEntry 31 = .ok (.iload_n 3, 1) := by decide +kernel
theorem dX7_dropEntry_32 : decode cX7_dropEntry 32 = .ok (.invokevirtual 92, 3) := by decide +kernel
theorem dX7_dropEntry_35 : decode cX7_dropEntry 35 = .ok (.iinc 3 1, 3) := by decide +kernel
theorem dX7_dropEntry_38 : decode cX7_dropEntry 38 = .ok (.goto (-19), 3) := by decide +kernel
theorem dX7_dropEntry_41 : decode cX7_dropEntry 41 = .ok (.iload_n 2, 1) := by decide +kernel
theorem dX7_dropEntry_42 : decode cX7_dropEntry 42 = .ok (.ireturn, 1) := by decide +kernel
theorem dX7_moveEntry_0 : decode cX7_moveEntry 0 = .ok (.aload_n 0, 1) := by decide +kernel
theorem dX7_moveEntry_1 : decode cX7_moveEntry 1 = .ok (.getfield 25, 3) := by decide +kernel
theorem dX7_moveEntry_4 : decode cX7_moveEntry 4 = .ok (.iload_n 2, 1) := by decide +kernel
theorem dX7_moveEntry_5 : decode cX7_moveEntry 5 = .ok (.aload_n 0, 1) := by decide +kernel
theorem dX7_moveEntry_6 : decode cX7_moveEntry 6 = .ok (.getfield 25, 3) := by decide +kernel
theorem dX7_moveEntry_9 : decode cX7_moveEntry 9 = .ok (.iload_n 1, 1) := by decide +kernel
theorem dX7_moveEntry_10 : decode cX7_moveEntry 10 = .ok (.iaload, 1) := by decide +kernel
theorem dX7_moveEntry_11 : decode cX7_moveEntry 11 = .ok (.iastore, 1) := by decide +kernel
theorem dX7_moveEntry_12 : decode cX7_moveEntry 12 = .ok (.aload_n 0, 1) := by decide +kernel
theorem dX7_moveEntry_13 : decode cX7_moveEntry 13 = .ok (.getfield 29, 3) := by decide +kernel
theorem dX7_moveEntry_16 : decode cX7_moveEntry 16 = .ok (.iload_n 2, 1) := by decide +kernel
theorem dX7_moveEntry_17 : decode cX7_moveEntry 17 = .ok (.aload_n 0, 1) := by decide +kernel
theorem dX7_moveEntry_18 : decode cX7_moveEntry 18 = .ok (.getfield 29, 3) := by decide +kernel
theorem dX7_moveEntry_21 : decode cX7_moveEntry 21 = .ok (.iload_n 1, 1) := by decide +kernel
theorem dX7_moveEntry_22 : decode cX7_moveEntry 22 = .ok (.iaload, 1) := by decide +kernel
theorem dX7_moveEntry_23 : decode cX7_moveEntry 23 = .ok (.iastore, 1) := by decide +kernel
theorem dX7_moveEntry_24 : decode cX7_moveEntry 24 = .ok (.return_, 1) := by decide +kernel
theorem dX7_problemOfPassing_0 : decode cX7_problemOfPassing 0 = .ok (.iload_n 1, 1) := by decide +kernel
theorem dX7_problemOfPassing_1 : decode cX7_problemOfPassing 1 = .ok (.iconst 1, 1) := by decide +kernel
theorem dX7_problemOfPassing_2 : decode cX7_problemOfPassing 2 = .ok (.if_icmp .lt 9, 3) := by decide +kernel
theorem dX7_problemOfPassing_5 : decode cX7_problemOfPassing 5 = .ok (.iload_n 1, 1) := by decide +kernel
theorem dX7_problemOfPassing_6 : decode cX7_problemOfPassing 6 = .ok (.bipush 40, 2) := by decide +kernel
theorem dX7_problemOfPassing_8 : decode cX7_problemOfPassing 8 = .ok (.if_icmp .le 9, 3) := by decide +kernel
theorem dX7_problemOfPassing_11 : decode cX7_problemOfPassing 11 = .ok (.getstatic 86, 3) := by decide +kernel
theorem dX7_problemOfPassing_14 : decode cX7_problemOfPassing 14 = .ok (.goto 6, 3) := by decide +kernel
theorem dX7_problemOfPassing_17 : decode cX7_problemOfPassing 17 = .ok (.getstatic 80, 3) := by decide +kernel
theorem dX7_problemOfPassing_20 : decode cX7_problemOfPassing 20 = .ok (.areturn, 1) := by decide +kernel
theorem dX7_passBeats_0 : decode cX7_passBeats 0 = .ok (.iconst 0, 1) := by decide +kernel
theorem dX7_passBeats_1 : decode cX7_passBeats 1 = .ok (.istore_n 2, 1) := by decide +kernel
theorem dX7_passBeats_2 : decode cX7_passBeats 2 = .ok (.iconst 0, 1) := by decide +kernel
theorem dX7_passBeats_3 : decode cX7_passBeats 3 = .ok (.istore_n 3, 1) := by decide +kernel
theorem dX7_passBeats_4 : decode cX7_passBeats 4 = .ok (.iload_n 3, 1) := by decide +kernel
theorem dX7_passBeats_5 : decode cX7_passBeats 5 = .ok (.iload_n 1, 1) := by decide +kernel
theorem dX7_passBeats_6 : decode cX7_passBeats 6 = .ok (.if_icmp .ge 16, 3) := by decide +kernel
theorem dX7_passBeats_9 : decode cX7_passBeats 9 = .ok (.iload_n 2, 1) := by decide +kernel
theorem dX7_passBeats_10 : decode cX7_passBeats 10 = .ok (.aload_n 0, 1) := by decide +kernel
theorem dX7_passBeats_11 : decode cX7_passBeats 11 = .ok (.invokevirtual 96, 3) := by decide +kernel
theorem dX7_passBeats_14 : decode cX7_passBeats 14 = .ok (.iadd, 1) := by decide +kernel
theorem dX7_passBeats_15 : decode cX7_passBeats 15 = .ok (.istore_n 2, 1) := by decide +kernel
theorem dX7_passBeats_16 : decode cX7_passBeats 16 = .ok (.iinc 3 1, 3) := by decide +kernel
theorem dX7_passBeats_19 : decode cX7_passBeats 19 = .ok (.goto (-15), 3) := by decide +kernel
theorem dX7_passBeats_22 : decode cX7_passBeats 22 = .ok (.iload_n 2, 1) := by decide +kernel
theorem dX7_passBeats_23 : decode cX7_passBeats 23 = .ok (.ireturn, 1) := by decide +kernel
theorem dX7_passOneBeat_0 : decode cX7_passOneBeat 0 = .ok (.aload_n 0, 1) := by decide +kernel
theorem dX7_passOneBeat_1 : decode cX7_passOneBeat 1 = .ok (.dup, 1) := by decide +kernel
theorem dX7_passOneBeat_2 : decode cX7_passOneBeat 2 = .ok (.getfield 36, 3) := by decide +kernel
theorem dX7_passOneBeat_5 : decode cX7_passOneBeat 5 = .ok (.iconst 1, 1) := by decide +kernel
theorem dX7_passOneBeat_6 : decode cX7_passOneBeat 6 = .ok (.iadd, 1) := by decide +kernel
theorem dX7_passOneBeat_7 : decode cX7_passOneBeat 7 = .ok (.putfield 36, 3) := by decide +kernel
theorem dX7_passOneBeat_10 : decode cX7_passOneBeat 10 = .ok (.iconst 0, 1) := by decide +kernel
theorem dX7_passOneBeat_11 : decode cX7_passOneBeat 11 = .ok (.istore_n 1, 1) := by decide +kernel
theorem dX7_passOneBeat_12 : decode cX7_passOneBeat 12 = .ok (.iload_n 1, 1) := by decide +kernel
theorem dX7_passOneBeat_13 : decode cX7_passOneBeat 13 = .ok (.aload_n 0, 1) := by decide +kernel
theorem dX7_passOneBeat_14 : decode cX7_passOneBeat 14 = .ok (.getfield 32, 3) := by decide +kernel
theorem dX7_passOneBeat_17 : decode cX7_passOneBeat 17 = .ok (.if_icmp .ge 14, 3) := by decide +kernel
theorem dX7_passOneBeat_20 : decode cX7_passOneBeat 20 = .ok (.aload_n 0, 1) := by decide +kernel
theorem dX7_passOneBeat_21 : decode cX7_passOneBeat 21 = .ok (.iload_n 1, 1) := by decide +kernel
theorem dX7_passOneBeat_22 : decode cX7_passOneBeat 22 = .ok (.invokevirtual 100, 3) := by decide +kernel
theorem dX7_passOneBeat_25 : decode cX7_passOneBeat 25 = .ok (.iinc 1 1, 3) := by decide +kernel
theorem dX7_passOneBeat_28 : decode cX7_passOneBeat 28 = .ok (.goto (-16), 3) := by decide +kernel
theorem dX7_passOneBeat_31 : decode cX7_passOneBeat 31 = .ok (.aload_n 0, 1) := by decide +kernel
theorem dX7_passOneBeat_32 : decode cX7_passOneBeat 32 = .ok (.invokevirtual 103, 3) := by decide +kernel
theorem dX7_passOneBeat_35 : decode cX7_passOneBeat 35 = .ok (.istore_n 1, 1) := by decide +kernel
theorem dX7_passOneBeat_36 : decode cX7_passOneBeat 36 = .ok (.aload_n 0, 1) := by decide +kernel
theorem dX7_passOneBeat_37 : decode cX7_passOneBeat 37 = .ok (.getfield 12, 3) := by decide +kernel
theorem dX7_passOneBeat_40 : decode cX7_passOneBeat 40 = .ok (.invokevirtual 106, 3) := by decide +kernel
theorem dX7_passOneBeat_43 : decode cX7_passOneBeat 43 = .ok (.istore_n 2, 1) := by decide +kernel
theorem dX7_passOneBeat_44 : decode cX7_passOneBeat 44 = .ok (.aload_n 0, 1) := by decide +kernel
theorem dX7_passOneBeat_45 : decode cX7_passOneBeat 45 = .ok (.getfield 12, 3) := by decide +kernel
theorem dX7_passOneBeat_48 : decode cX7_passOneBeat 48 = .ok (.iload_n 2, 1) := by decide +kernel
theorem dX7_passOneBeat_49 : decode cX7_passOneBeat 49 = .ok (.invokevirtual 109, 3) := by decide +kernel
theorem dX7_passOneBeat_52 : decode cX7_passOneBeat 52 = .ok (.istore_n 3, 1) := by decide +kernel
theorem dX7_passOneBeat_53 : decode cX7_passOneBeat 53 = .ok (.aload_n 0, 1) := by decide +kernel
theorem dX7_passOneBeat_54 : decode cX7_passOneBeat 54 = .ok (.dup, 1) := by decide +kernel
theorem dX7_passOneBeat_55 : decode cX7_passOneBeat 55 = .ok (.getfield 39, 3) := by decide +kernel
theorem dX7_passOneBeat_58 : decode cX7_passOneBeat 58 = .ok (.iload_n 3, 1) := by decide +kernel
theorem dX7_passOneBeat_59 : decode cX7_passOneBeat 59 = .ok (.i2l, 1) := by decide +kernel
theorem dX7_passOneBeat_60 : decode cX7_passOneBeat 60 = .ok (.ladd, 1) := by decide +kernel
theorem dX7_passOneBeat_61 : decode cX7_passOneBeat 61 = .ok (.putfield 39, 3) := by decide +kernel
theorem dX7_passOneBeat_64 : decode cX7_passOneBeat 64 = .ok (.aload_n 0, 1) := by decide +kernel
theorem dX7_passOneBeat_65 : decode cX7_passOneBeat 65 = .ok (.dup, 1) := by decide +kernel
theorem dX7_passOneBeat_66 : decode cX7_passOneBeat 66 = .ok (.getfield 43, 3) := by decide +kernel
theorem dX7_passOneBeat_69 : decode cX7_passOneBeat 69 = .ok (.iload_n 2, 1) := by decide +kernel
theorem dX7_passOneBeat_70 : decode cX7_passOneBeat 70 = .ok (.iload_n 3, 1) := by decide +kernel
theorem dX7_passOneBeat_71 : decode cX7_passOneBeat 71 = .ok (.isub, 1) := by decide +kernel
theorem dX7_passOneBeat_72 : decode cX7_passOneBeat 72 = .ok (.i2l, 1) := by decide +kernel
theorem dX7_passOneBeat_73 : decode cX7_passOneBeat 73 = .ok (.ladd, 1) := by decide +kernel
theorem dX7_passOneBeat_74 : decode cX7_passOneBeat 74 = .ok (.putfield 43, 3) := by decide +kernel
theorem dX7_passOneBeat_77 : decode cX7_passOneBeat 77 = .ok (.iload_n 1, 1) := by decide +kernel
theorem dX7_passOneBeat_78 : decode cX7_passOneBeat 78 = .ok (.ireturn, 1) := by decide +kernel
theorem dX7_happenDueSteps_0 : decode cX7_happenDueSteps 0 = .ok (.aload_n 0, 1) := by decide +kernel
theorem dX7_happenDueSteps_1 : decode cX7_happenDueSteps 1 = .ok (.getfield 25, 3) := by decide +kernel
theorem dX7_happenDueSteps_4 : decode cX7_happenDueSteps 4 = .ok (.iload_n 1, 1) := by decide +kernel
theorem dX7_happenDueSteps_5 : decode cX7_happenDueSteps 5 = .ok (.iaload, 1) := by decide +kernel
theorem dX7_happenDueSteps_6 : decode cX7_happenDueSteps 6 = .ok (.istore_n 2, 1) := by decide +kernel
theorem dX7_happenDueSteps_7 : decode cX7_happenDueSteps 7 = .ok (.iconst 0, 1) := by decide +kernel
theorem dX7_happenDueSteps_8 : decode cX7_happenDueSteps 8 = .ok (.istore_n 3, 1) := by decide +kernel
theorem dX7_happenDueSteps_9 : decode cX7_happenDueSteps 9 = .ok (.iload_n 3, 1) := by decide +kernel
theorem dX7_happenDueSteps_10 : decode cX7_happenDueSteps 10 = .ok (.aload_n 0, 1) := by decide +kernel
theorem dX7_happenDueSteps_11 : decode cX7_happenDueSteps 11 = .ok (.getfield 21, 3) := by decide +kernel
theorem dX7_happenDueSteps_14 : decode cX7_happenDueSteps 14 = .ok (.getfield 89, 3) := by decide +kernel
theorem dX7_happenDueSteps_17 : decode cX7_happenDueSteps 17 = .ok (.iload_n 2, 1) := by decide +kernel
theorem dX7_happenDueSteps_18 : decode cX7_happenDueSteps 18 = .ok (.iaload, 1) := by decide +kernel
theorem dX7_happenDueSteps_19 : decode cX7_happenDueSteps 19 = .ok (.if_icmp .ge 68, 3) := by decide +kernel
theorem dX7_happenDueSteps_22 : decode cX7_happenDueSteps 22 = .ok (.iload_n 2, 1) := by decide +kernel
theorem dX7_happenDueSteps_23 : decode cX7_happenDueSteps 23 = .ok (.iload_n 3, 1) := by decide +kernel
theorem dX7_happenDueSteps_24 : decode cX7_happenDueSteps 24 = .ok (.invokestatic 112, 3) := by decide +kernel
theorem dX7_happenDueSteps_27 : decode cX7_happenDueSteps 27 = .ok (.istore 4, 2) := by decide +kernel
theorem dX7_happenDueSteps_29 : decode cX7_happenDueSteps 29 = .ok (.aload_n 0, 1) := by decide +kernel
theorem dX7_happenDueSteps_30 : decode cX7_happenDueSteps 30 = .ok (.getfield 29, 3) := by decide +kernel
theorem dX7_happenDueSteps_33 : decode cX7_happenDueSteps 33 = .ok (.iload_n 1, 1) := by decide +kernel
theorem dX7_happenDueSteps_34 : decode cX7_happenDueSteps 34 = .ok (.iaload, 1) := by decide +kernel
theorem dX7_happenDueSteps_35 : decode cX7_happenDueSteps 35 = .ok (.aload_n 0, 1) := by decide +kernel
theorem dX7_happenDueSteps_36 : decode cX7_happenDueSteps 36 = .ok (.getfield 21, 3) := by decide +kernel
theorem dX7_happenDueSteps_39 : decode cX7_happenDueSteps 39 = .ok (.getfield 116, 3) := by decide +kernel
theorem dX7_happenDueSteps_42 : decode cX7_happenDueSteps 42 = .ok (.iload 4, 2) := by decide +kernel
theorem dX7_happenDueSteps_44 : decode cX7_happenDueSteps 44 = .ok (.iaload, 1) := by decide +kernel
theorem dX7_happenDueSteps_45 : decode cX7_happenDueSteps 45 = .ok (.iadd, 1) := by decide +kernel
theorem dX7_happenDueSteps_46 : decode cX7_happenDueSteps 46 = .ok (.aload_n 0, 1) := by decide +kernel
theorem dX7_happenDueSteps_47 : decode cX7_happenDueSteps 47 = .ok (.getfield 36, 3) := by decide +kernel
theorem dX7_happenDueSteps_50 : decode cX7_happenDueSteps 50 = .ok (.if_icmp .ne 31, 3) := by decide +kernel
theorem dX7_happenDueSteps_53 : decode cX7_happenDueSteps 53 = .ok (.aload_n 0, 1) := by decide +kernel
theorem dX7_happenDueSteps_54 : decode cX7_happenDueSteps 54 = .ok (.getfield 12, 3) := by decide +kernel
theorem dX7_happenDueSteps_57 : decode cX7_happenDueSteps 57 = .ok (.getfield 119, 3) := by decide +kernel
theorem dX7_happenDueSteps_60 : decode cX7_happenDueSteps 60 = .ok (.aload_n 0, 1) := by decide +kernel
theorem dX7_happenDueSteps_61 : decode cX7_happenDueSteps 61 = .ok (.getfield 21, 3) := by decide +kernel
theorem dX7_happenDueSteps_64 : decode cX7_happenDueSteps 64 = .ok (.getfield 122, 3) := by decide +kernel
theorem dX7_happenDueSteps_67 : decode cX7_happenDueSteps 67 = .ok (.iload 4, 2) := by decide +kernel
theorem dX7_happenDueSteps_69 : decode cX7_happenDueSteps 69 = .ok (.iaload, 1) := by decide +kernel
theorem dX7_happenDueSteps_70 : decode cX7_happenDueSteps 70 = .ok (.aload_n 0, 1) := by decide +kernel
theorem dX7_happenDueSteps_71 : decode cX7_happenDueSteps 71 = .ok (.getfield 21, 3) := by decide +kernel
theorem dX7_happenDueSteps_74 : decode cX7_happenDueSteps 74 = .ok (.getfield 124, 3) := by decide +kernel
theorem dX7_happenDueSteps_77 : decode cX7_happenDueSteps 77 = .ok (.iload 4, 2) := by decide +kernel
theorem dX7_happenDueSteps_79 : decode cX7_happenDueSteps 79 = .ok (.iaload, 1) := by decide +kernel
theorem dX7_happenDueSteps_80 : decode cX7_happenDueSteps 80 = .ok (.iastore, 1) := by decide +kernel
theorem dX7_happenDueSteps_81 : decode cX7_happenDueSteps 81 = .ok (.iinc 3 1, 3) := by decide +kernel
theorem dX7_happenDueSteps_84 : decode cX7_happenDueSteps 84 = .ok (.goto (-75), 3) := by decide +kernel
theorem dX7_happenDueSteps_87 : decode cX7_happenDueSteps 87 = .ok (.return_, 1) := by decide +kernel
theorem dX7_dropFinishedEntries_0 : decode cX7_dropFinishedEntries 0 = .ok (.aload_n 0, 1) := by decide +kernel
theorem dX7_dropFinishedEntries_1 : decode cX7_dropFinishedEntries 1 = .ok (.getfield 32, 3) := by decide +kernel
theorem dX7_dropFinishedEntries_4 : decode cX7_dropFinishedEntries 4 = .ok (.istore_n 1, 1) := by decide +kernel
theorem dX7_dropFinishedEntries_5 : decode cX7_dropFinishedEntries 5 = .ok (.iconst 0, 1) := by decide +kernel
theorem dX7_dropFinishedEntries_6 : decode cX7_dropFinishedEntries 6 = .ok (.istore_n 2, 1) := by decide +kernel
theorem dX7_dropFinishedEntries_7 : decode cX7_dropFinishedEntries 7 = .ok (.iconst 0, 1) := by decide +kernel
theorem dX7_dropFinishedEntries_8 : decode cX7_dropFinishedEntries 8 = .ok (.istore_n 3, 1) := by decide +kernel
theorem dX7_dropFinishedEntries_9 : decode cX7_dropFinishedEntries 9 = .ok (.iload_n 3, 1) := by decide +kernel
theorem dX7_dropFinishedEntries_10 : decode cX7_dropFinishedEntries 10 = .ok (.iload_n 1, 1) := by decide +kernel
theorem dX7_dropFinishedEntries_11 : decode cX7_dropFinishedEntries 11 = .ok (.if_icmp .ge 45, 3) := by decide +kernel
theorem dX7_dropFinishedEntries_14 : decode cX7_dropFinishedEntries 14 = .ok (.aload_n 0, 1) := by decide +kernel
theorem dX7_dropFinishedEntries_15 : decode cX7_dropFinishedEntries 15 = .ok (.getfield 29, 3) := by decide +kernel
theorem dX7_dropFinishedEntries_18 : decode cX7_dropFinishedEntries 18 = .ok (.iload_n 3, 1) := by decide +kernel
theorem dX7_dropFinishedEntries_19 : decode cX7_dropFinishedEntries 19 = .ok (.iaload, 1) := by decide +kernel
theorem dX7_dropFinishedEntries_20 : decode cX7_dropFinishedEntries 20 = .ok (.aload_n 0, 1) := by decide +kernel
theorem dX7_dropFinishedEntries_21 : decode cX7_dropFinishedEntries 21 = .ok (.getfield 21, 3) := by decide +kernel
theorem dX7_dropFinishedEntries_24 : decode cX7_dropFinishedEntries 24 = .ok (.aload_n 0, 1) := by decide +kernel
theorem dX7_dropFinishedEntries_25 : decode cX7_dropFinishedEntries 25 = .ok (.getfield 25, 3) := by decide +kernel
theorem dX7_dropFinishedEntries_28 : decode cX7_dropFinishedEntries 28 = .ok (.iload_n 3, 1) := by decide +kernel
theorem dX7_dropFinishedEntries_29 : decode cX7_dropFinishedEntries 29 = .ok (.iaload, 1) := by decide +kernel
theorem dX7_dropFinishedEntries_30 : decode cX7_dropFinishedEntries 30 = .ok (.invokevirtual 125, 3) := by decide +kernel
theorem dX7_dropFinishedEntries_33 : decode cX7_dropFinishedEntries 33 = .ok (.iadd, 1) := by decide +kernel
theorem dX7_dropFinishedEntries_34 : decode cX7_dropFinishedEntries 34 = .ok (.aload_n 0, 1) := by decide +kernel
theorem dX7_dropFinishedEntries_35 : decode cX7_dropFinishedEntries 35 = .ok (.getfield 36, 3) := by decide +kernel
theorem dX7_dropFinishedEntries_38 : decode cX7_dropFinishedEntries 38 = .ok (.if_icmp .le 12, 3) := by decide +kernel
theorem dX7_dropFinishedEntries_41 : decode cX7_dropFinishedEntries 41 = .ok (.aload_n 0, 1) := by decide +kernel
theorem dX7_dropFinishedEntries_42 : decode cX7_dropFinishedEntries 42 = .ok (.iload_n 3, 1) := by decide +kernel
theorem dX7_dropFinishedEntries_43 : decode cX7_dropFinishedEntries 43 = .ok (.iload_n 2, 1) := by decide +kernel
theorem dX7_dropFinishedEntries_44 : decode cX7_dropFinishedEntries 44 = .ok (.invokevirtual 92, 3) := by decide +kernel
theorem dX7_dropFinishedEntries_47 : decode cX7_dropFinishedEntries 47 = .ok (.iinc 2 1, 3) := by decide +kernel
theorem dX7_dropFinishedEntries_50 : decode cX7_dropFinishedEntries 50 = .ok (.iinc 3 1, 3) := by decide +kernel
theorem dX7_dropFinishedEntries_53 : decode cX7_dropFinishedEntries 53 = .ok (.goto (-44), 3) := by decide +kernel
theorem dX7_dropFinishedEntries_56 : decode cX7_dropFinishedEntries 56 = .ok (.aload_n 0, 1) := by decide +kernel
theorem dX7_dropFinishedEntries_57 : decode cX7_dropFinishedEntries 57 = .ok (.iload_n 2, 1) := by decide +kernel
theorem dX7_dropFinishedEntries_58 : decode cX7_dropFinishedEntries 58 = .ok (.putfield 32, 3) := by decide +kernel
theorem dX7_dropFinishedEntries_61 : decode cX7_dropFinishedEntries 61 = .ok (.iload_n 1, 1) := by decide +kernel
theorem dX7_dropFinishedEntries_62 : decode cX7_dropFinishedEntries 62 = .ok (.iload_n 2, 1) := by decide +kernel
theorem dX7_dropFinishedEntries_63 : decode cX7_dropFinishedEntries 63 = .ok (.isub, 1) := by decide +kernel
theorem dX7_dropFinishedEntries_64 : decode cX7_dropFinishedEntries 64 = .ok (.ireturn, 1) := by decide +kernel
theorem dX7_beatsToEmptyQueue_0 : decode cX7_beatsToEmptyQueue 0 = .ok (.aload_n 0, 1) := by decide +kernel
theorem dX7_beatsToEmptyQueue_1 : decode cX7_beatsToEmptyQueue 1 = .ok (.getfield 32, 3) := by decide +kernel
theorem dX7_beatsToEmptyQueue_4 : decode cX7_beatsToEmptyQueue 4 = .ok (.ifCond .ne 5, 3) := by decide +kernel
theorem dX7_beatsToEmptyQueue_7 : decode cX7_beatsToEmptyQueue 7 = .ok (.iconst 0, 1) := by decide +kernel
theorem dX7_beatsToEmptyQueue_8 : decode cX7_beatsToEmptyQueue 8 = .ok (.ireturn, 1) := by decide +kernel
theorem dX7_beatsToEmptyQueue_9 : decode cX7_beatsToEmptyQueue 9 = .ok (.iconst 1, 1) := by decide +kernel
theorem dX7_beatsToEmptyQueue_10 : decode cX7_beatsToEmptyQueue 10 = .ok (.istore_n 1, 1) := by decide +kernel
theorem dX7_beatsToEmptyQueue_11 : decode cX7_beatsToEmptyQueue 11 = .ok (.iconst 0, 1) := by decide +kernel
theorem dX7_beatsToEmptyQueue_12 : decode cX7_beatsToEmptyQueue 12 = .ok (.istore_n 2, 1) := by decide +kernel
theorem dX7_beatsToEmptyQueue_13 : decode cX7_beatsToEmptyQueue 13 = .ok (.iload_n 2, 1) := by decide +kernel
theorem dX7_beatsToEmptyQueue_14 : decode cX7_beatsToEmptyQueue 14 = .ok (.aload_n 0, 1) := by decide +kernel
theorem dX7_beatsToEmptyQueue_15 : decode cX7_beatsToEmptyQueue 15 = .ok (.getfield 32, 3) := by decide +kernel
theorem dX7_beatsToEmptyQueue_18 : decode cX7_beatsToEmptyQueue 18 = .ok (.if_icmp .ge 41, 3) := by decide +kernel
theorem dX7_beatsToEmptyQueue_21 : decode cX7_beatsToEmptyQueue 21 = .ok (.aload_n 0, 1) := by decide +kernel
theorem dX7_beatsToEmptyQueue_22 : decode cX7_beatsToEmptyQueue 22 = .ok (.getfield 29, 3) := by decide +kernel
theorem dX7_beatsToEmptyQueue_25 : decode cX7_beatsToEmptyQueue 25 = .ok (.iload_n 2, 1) := by decide +kernel
theorem dX7_beatsToEmptyQueue_26 : decode cX7_beatsToEmptyQueue 26 = .ok (.iaload, 1) := by decide +kernel
theorem dX7_beatsToEmptyQueue_27 : decode cX7_beatsToEmptyQueue 27 = .ok (.aload_n 0, 1) := by decide +kernel
theorem dX7_beatsToEmptyQueue_28 : decode cX7_beatsToEmptyQueue 28 = .ok (.getfield 21, 3) := by decide +kernel
theorem dX7_beatsToEmptyQueue_31 : decode cX7_beatsToEmptyQueue 31 = .ok (.aload_n 0, 1) := by decide +kernel
theorem dX7_beatsToEmptyQueue_32 : decode cX7_beatsToEmptyQueue 32 = .ok (.getfield 25, 3) := by decide +kernel
theorem dX7_beatsToEmptyQueue_35 : decode cX7_beatsToEmptyQueue 35 = .ok (.iload_n 2, 1) := by decide +kernel
theorem dX7_beatsToEmptyQueue_36 : decode cX7_beatsToEmptyQueue 36 = .ok (.iaload, 1) := by decide +kernel
theorem dX7_beatsToEmptyQueue_37 : decode cX7_beatsToEmptyQueue 37 = .ok (.invokevirtual 125, 3) := by decide +kernel
theorem dX7_beatsToEmptyQueue_40 : decode cX7_beatsToEmptyQueue 40 = .ok (.iadd, 1) := by decide +kernel
theorem dX7_beatsToEmptyQueue_41 : decode cX7_beatsToEmptyQueue 41 = .ok (.istore_n 3, 1) := by decide +kernel
theorem dX7_beatsToEmptyQueue_42 : decode cX7_beatsToEmptyQueue 42 = .ok (.iload_n 1, 1) := by decide +kernel
theorem dX7_beatsToEmptyQueue_43 : decode cX7_beatsToEmptyQueue 43 = .ok (.iload_n 3, 1) := by decide +kernel
theorem dX7_beatsToEmptyQueue_44 : decode cX7_beatsToEmptyQueue 44 = .ok (.aload_n 0, 1) := by decide +kernel
theorem dX7_beatsToEmptyQueue_45 : decode cX7_beatsToEmptyQueue 45 = .ok (.getfield 36, 3) := by decide +kernel
theorem dX7_beatsToEmptyQueue_48 : decode cX7_beatsToEmptyQueue 48 = .ok (.isub, 1) := by decide +kernel
theorem dX7_beatsToEmptyQueue_49 : decode cX7_beatsToEmptyQueue 49 = .ok (.invokestatic 128, 3) := by decide +kernel
theorem dX7_beatsToEmptyQueue_52 : decode cX7_beatsToEmptyQueue 52 = .ok (.istore_n 1, 1) := by decide +kernel
theorem dX7_beatsToEmptyQueue_53 : decode cX7_beatsToEmptyQueue 53 = .ok (.iinc 2 1, 3) := by decide +kernel
theorem dX7_beatsToEmptyQueue_56 : decode cX7_beatsToEmptyQueue 56 = .ok (.goto (-43), 3) := by decide +kernel
theorem dX7_beatsToEmptyQueue_59 : decode cX7_beatsToEmptyQueue 59 = .ok (.iload_n 1, 1) := by decide +kernel
theorem dX7_beatsToEmptyQueue_60 : decode cX7_beatsToEmptyQueue 60 = .ok (.ireturn, 1) := by decide +kernel
theorem dX7_demandFromLastSteps_0 : decode cX7_demandFromLastSteps 0 = .ok (.iconst 0, 1) := by decide +kernel
theorem dX7_demandFromLastSteps_1 : decode cX7_demandFromLastSteps 1 = .ok (.istore_n 2, 1) := by decide +kernel
theorem dX7_demandFromLastSteps_2 : decode cX7_demandFromLastSteps 2 = .ok (.iconst 0, 1) := by decide +kernel
theorem dX7_demandFromLastSteps_3 : decode cX7_demandFromLastSteps 3 = .ok (.istore_n 3, 1) := by decide +kernel
theorem dX7_demandFromLastSteps_4 : decode cX7_demandFromLastSteps 4 = .ok (.iload_n 3, 1) := by decide +kernel
theorem dX7_demandFromLastSteps_5 : decode cX7_demandFromLastSteps 5 = .ok (.aload_n 0, 1) := by decide +kernel
theorem dX7_demandFromLastSteps_6 : decode cX7_demandFromLastSteps 6 = .ok (.getfield 12, 3) := by decide +kernel
theorem dX7_demandFromLastSteps_9 : decode cX7_demandFromLastSteps 9 = .ok (.getfield 133, 3) := by decide +kernel
theorem dX7_demandFromLastSteps_12 : decode cX7_demandFromLastSteps 12 = .ok (.if_icmp .ge 23, 3) := by decide +kernel
theorem dX7_demandFromLastSteps_15 : decode cX7_demandFromLastSteps 15 = .ok (.iload_n 2, 1) := by decide +kernel
theorem dX7_demandFromLastSteps_16 : decode cX7_demandFromLastSteps 16 = .ok (.aload_n 0, 1) := by decide +kernel
theorem dX7_demandFromLastSteps_17 : decode cX7_demandFromLastSteps 17 = .ok (.iload_n 3, 1) := by decide +kernel
theorem dX7_demandFromLastSteps_18 : decode cX7_demandFromLastSteps 18 = .ok (.aload_n 0, 1) := by decide +kernel
theorem dX7_demandFromLastSteps_19 : decode cX7_demandFromLastSteps 19 = .ok (.getfield 36, 3) := by decide +kernel
theorem dX7_demandFromLastSteps_22 : decode cX7_demandFromLastSteps 22 = .ok (.iload_n 1, 1) := by decide +kernel
theorem dX7_demandFromLastSteps_23 : decode cX7_demandFromLastSteps 23 = .ok (.iadd, 1) := by decide +kernel
theorem dX7_demandFromLastSteps_24 : decode cX7_demandFromLastSteps 24 = .ok (.invokevirtual 136, 3) := by decide +kernel
theorem dX7_demandFromLastSteps_27 : decode cX7_demandFromLastSteps 27 = .ok (.iadd, 1) := by decide +kernel
theorem dX7_demandFromLastSteps_28 : decode cX7_demandFromLastSteps 28 = .ok (.istore_n 2, 1) := by decide +kernel
theorem dX7_demandFromLastSteps_29 : decode cX7_demandFromLastSteps 29 = .ok (.iinc 3 1, 3) := by decide +kernel
theorem dX7_demandFromLastSteps_32 : decode cX7_demandFromLastSteps 32 = .ok (.goto (-28), 3) := by decide +kernel
theorem dX7_demandFromLastSteps_35 : decode cX7_demandFromLastSteps 35 = .ok (.iload_n 2, 1) := by decide +kernel
theorem dX7_demandFromLastSteps_36 : decode cX7_demandFromLastSteps 36 = .ok (.ireturn, 1) := by decide +kernel
theorem dX7_openingFromLastStep_0 : decode cX7_openingFromLastStep 0 = .ok (.aload_n 0, 1) := by decide +kernel
theorem dX7_openingFromLastStep_1 : decode cX7_openingFromLastStep 1 = .ok (.getfield 36, 3) := by decide +kernel
theorem dX7_openingFromLastStep_4 : decode cX7_openingFromLastStep 4 = .ok (.iconst 1, 1) := by decide +kernel
theorem dX7_openingFromLastStep_5 : decode cX7_openingFromLastStep 5 = .ok (.iadd, 1) := by decide +kernel
theorem dX7_openingFromLastStep_6 : decode cX7_openingFromLastStep 6 = .ok (.istore_n 3, 1) := by decide +kernel
theorem dX7_openingFromLastStep_7 : decode cX7_openingFromLastStep 7 = .ok (.aload_n 0, 1) := by decide +kernel
theorem dX7_openingFromLastStep_8 : decode cX7_openingFromLastStep 8 = .ok (.getfield 12, 3) := by decide +kernel
theorem dX7_openingFromLastStep_11 : decode cX7_openingFromLastStep 11 = .ok (.getfield 119, 3) := by decide +kernel
theorem dX7_openingFromLastStep_14 : decode cX7_openingFromLastStep 14 = .ok (.iload_n 1, 1) := by decide +kernel
theorem dX7_openingFromLastStep_15 : decode cX7_openingFromLastStep 15 = .ok (.iaload, 1) := by decide +kernel
theorem dX7_openingFromLastStep_16 : decode cX7_openingFromLastStep 16 = .ok (.istore 4, 2) := by decide +kernel
theorem dX7_openingFromLastStep_18 : decode cX7_openingFromLastStep 18 = .ok (.iconst 0, 1) := by decide +kernel
theorem dX7_openingFromLastStep_19 : decode cX7_openingFromLastStep 19 = .ok (.istore 5, 2) := by decide +kernel
theorem dX7_openingFromLastStep_21 : decode cX7_openingFromLastStep 21 = .ok (.iload 5, 2) := by decide +kernel
theorem dX7_openingFromLastStep_23 : decode cX7_openingFromLastStep 23 = .ok (.aload_n 0, 1) := by decide +kernel
theorem dX7_openingFromLastStep_24 : decode cX7_openingFromLastStep 24 = .ok (.getfield 32, 3) := by decide +kernel
theorem dX7_openingFromLastStep_27 : decode cX7_openingFromLastStep 27 = .ok (.if_icmp .ge 112, 3) := by decide +kernel
theorem dX7_openingFromLastStep_30 : decode cX7_openingFromLastStep 30 = .ok (.aload_n 0, 1) := by decide +kernel
theorem dX7_openingFromLastStep_31 : decode cX7_openingFromLastStep 31 = .ok (.getfield 25, 3) := by decide +kernel
theorem dX7_openingFromLastStep_34 : decode cX7_openingFromLastStep 34 = .ok (.iload 5, 2) := by decide +kernel
theorem dX7_openingFromLastStep_36 : decode cX7_openingFromLastStep 36 = .ok (.iaload, 1) := by decide +kernel
theorem dX7_openingFromLastStep_37 : decode cX7_openingFromLastStep 37 = .ok (.istore 6, 2) := by decide +kernel
theorem dX7_openingFromLastStep_39 : decode cX7_openingFromLastStep 39 = .ok (.iconst 0, 1) := by decide +kernel
theorem dX7_openingFromLastStep_40 : decode cX7_openingFromLastStep 40 = .ok (.istore 7, 2) := by decide +kernel
theorem dX7_openingFromLastStep_42 : decode cX7_openingFromLastStep 42 = .ok (.iload 7, 2) := by decide +kernel
theorem dX7_openingFromLastStep_44 : decode cX7_openingFromLastStep 44 = .ok (.aload_n 0, 1) := by decide +kernel
theorem dX7_openingFromLastStep_45 : decode cX7_openingFromLastStep 45 = .ok (.getfield 21, 3) := by decide +kernel
theorem dX7_openingFromLastStep_48 : decode cX7_openingFromLastStep 48 = .ok (.getfield 89, 3) := by decide +kernel
theorem dX7_openingFromLastStep_51 : decode cX7_openingFromLastStep 51 = .ok (.iload 6, 2) := by decide +kernel
theorem dX7_openingFromLastStep_53 : decode cX7_openingFromLastStep 53 = .ok (.iaload, 1) := by decide +kernel
theorem dX7_openingFromLastStep_54 : decode cX7_openingFromLastStep 54 = .ok (.if_icmp .ge 79, 3) := by decide +kernel
theorem dX7_openingFromLastStep_57 : decode cX7_openingFromLastStep 57 = .ok (.iload 6, 2) := by decide +kernel
theorem dX7_openingFromLastStep_59 : decode cX7_openingFromLastStep 59 = .ok (.iload 7, 2) := by decide +kernel
theorem dX7_openingFromLastStep_61 : decode cX7_openingFromLastStep 61 = .ok (.invokestatic 112, 3) := by decide +kernel
theorem dX7_openingFromLastStep_64 : decode cX7_openingFromLastStep 64 = .ok (.istore 8, 2) := by decide +kernel
theorem dX7_openingFromLastStep_66 : decode cX7_openingFromLastStep 66 = .ok (.aload_n 0, 1) := by decide +kernel
theorem dX7_openingFromLastStep_67 : decode cX7_openingFromLastStep 67 = .ok (.getfield 29, 3) := by decide +kernel
theorem dX7_openingFromLastStep_70 : decode cX7_openingFromLastStep 70 = .ok (.iload 5, 2) := by decide +kernel
theorem dX7_openingFromLastStep_72 : decode cX7_openingFromLastStep 72 = .ok (.iaload, 1) := by decide +kernel
theorem dX7_openingFromLastStep_73 : decode cX7_openingFromLastStep 73 = .ok (.aload_n 0, 1) := by decide +kernel
theorem dX7_openingFromLastStep_74 : decode cX7_openingFromLastStep 74 = .ok (.getfield 21, 3) := by decide +kernel
theorem dX7_openingFromLastStep_77 : decode cX7_openingFromLastStep 77 = .ok (.getfield 116, 3) := by decide +kernel
theorem dX7_openingFromLastStep_80 : decode cX7_openingFromLastStep 80 = .ok (.iload 8, 2) := by decide +kernel
theorem dX7_openingFromLastStep_82 : decode cX7_openingFromLastStep 82 = .ok (.iaload, 1) := by decide +kernel
theorem dX7_openingFromLastStep_83 : decode cX7_openingFromLastStep 83 = .ok (.iadd, 1) := by decide +kernel
theorem dX7_openingFromLastStep_84 : decode cX7_openingFromLastStep 84 = .ok (.istore 9, 2) := by decide +kernel
theorem dX7_openingFromLastStep_86 : decode cX7_openingFromLastStep 86 = .ok (.aload_n 0, 1) := by decide +kernel
theorem dX7_openingFromLastStep_87 : decode cX7_openingFromLastStep 87 = .ok (.getfield 21, 3) := by decide +kernel
theorem dX7_openingFromLastStep_90 : decode cX7_openingFromLastStep 90 = .ok (.getfield 122, 3) := by decide +kernel
theorem dX7_openingFromLastStep_93 : decode cX7_openingFromLastStep 93 = .ok (.iload 8, 2) := by decide +kernel
theorem dX7_openingFromLastStep_95 : decode cX7_openingFromLastStep 95 = .ok (.iaload, 1) := by decide +kernel
theorem dX7_openingFromLastStep_96 : decode cX7_openingFromLastStep 96 = .ok (.iload_n 1, 1) := by decide +kernel
theorem dX7_openingFromLastStep_97 : decode cX7_openingFromLastStep 97 = .ok (.if_icmp .ne 30, 3) := by decide +kernel
theorem dX7_openingFromLastStep_100 : decode cX7_openingFromLastStep 100 = .ok (.iload 9, 2) := by decide +kernel
theorem dX7_openingFromLastStep_102 : decode cX7_openingFromLastStep 102 = .ok (.iload_n 3, 1) := by decide +kernel
theorem dX7_openingFromLastStep_103 : decode cX7_openingFromLastStep 103 = .ok (.if_icmp .lt 24, 3) := by decide +kernel
theorem dX7_openingFromLastStep_106 : decode cX7_openingFromLastStep 106 = .ok (.iload 9, 2) := by decide +kernel
theorem dX7_openingFromLastStep_108 : decode cX7_openingFromLastStep 108 = .ok (.iload_n 2, 1) := by decide +kernel
theorem dX7_openingFromLastStep_109 : decode cX7_openingFromLastStep 109 = .ok (.if_icmp .gt 18, 3) := by decide +kernel
theorem dX7_openingFromLastStep_112 : decode cX7_openingFromLastStep 112 = .ok (.iload 9, 2) := by decide +kernel
theorem dX7_openingFromLastStep_114 : decode cX7_openingFromLastStep 114 = .ok (.istore_n 3, 1) := by decide +kernel
theorem dX7_openingFromLastStep_115 : decode cX7_openingFromLastStep 115 = .ok (.aload_n 0, 1) := by decide +kernel
theorem dX7_openingFromLastStep_116 : decode cX7_openingFromLastStep 116 = .ok (.getfield 21, 3) := by decide +kernel
theorem dX7_openingFromLastStep_119 : decode cX7_openingFromLastStep 119 = .ok (.getfield 124, 3) := by decide +kernel
theorem dX7_openingFromLastStep_122 : decode cX7_openingFromLastStep 122 = .ok (.iload 8, 2) := by decide +kernel
theorem dX7_openingFromLastStep_124 : decode cX7_openingFromLastStep 124 = .ok (.iaload, 1) := by decide +kernel
theorem dX7_openingFromLastStep_125 : decode cX7_openingFromLastStep 125 = .ok (.istore 4, 2) := by decide +kernel
theorem dX7_openingFromLastStep_127 : decode cX7_openingFromLastStep 127 = .ok (.iinc 7 1, 3) := by decide +kernel
theorem dX7_openingFromLastStep_130 : decode cX7_openingFromLastStep 130 = .ok (.goto (-88), 3) := by decide +kernel
theorem dX7_openingFromLastStep_133 : decode cX7_openingFromLastStep 133 = .ok (.iinc 5 1, 3) := by decide +kernel
theorem dX7_openingFromLastStep_136 : decode cX7_openingFromLastStep 136 = .ok (.goto (-115), 3) := by decide +kernel
theorem dX7_openingFromLastStep_139 : decode cX7_openingFromLastStep 139 = .ok (.iload 4, 2) := by decide +kernel
theorem dX7_openingFromLastStep_141 : decode cX7_openingFromLastStep 141 = .ok (.ireturn, 1) := by decide +kernel
theorem dX7_problemOf_0 : decode cX7_problemOf 0 = .ok (.getstatic 139, 3) := by decide +kernel
theorem dX7_problemOf_3 : decode cX7_problemOf 3 = .ok (.aload_n 1, 1) := by decide +kernel
theorem dX7_problemOf_4 : decode cX7_problemOf 4 = .ok (.invokevirtual 144, 3) := by decide +kernel
theorem dX7_problemOf_7 : decode cX7_problemOf 7 = .ok (.iaload, 1) := by decide +kernel
theorem dX7_problemOf_8 : decode cX7_problemOf 8 = .ok (.tableswitch 143 1 8 #[48, 59, 73, 84, 99, 107, 124, 135], 48) := by decide +kernel
theorem dX7_problemOf_56 : decode cX7_problemOf 56 = .ok (.aload_n 0, 1) := by decide +kernel
theorem dX7_problemOf_57 : decode cX7_problemOf 57 = .ok (.getfield 12, 3) := by decide +kernel
theorem dX7_problemOf_60 : decode cX7_problemOf 60 = .ok (.aload_n 2, 1) := by decide +kernel
theorem dX7_problemOf_61 : decode cX7_problemOf 61 = .ok (.iconst 0, 1) := by decide +kernel
theorem dX7_problemOf_62 : decode cX7_problemOf 62 = .ok (.iaload, 1) := by decide +kernel
theorem dX7_problemOf_63 : decode cX7_problemOf 63 = .ok (.invokevirtual 149, 3) := by decide +kernel
theorem dX7_problemOf_66 : decode cX7_problemOf 66 = .ok (.areturn, 1) := by decide +kernel
theorem dX7_problemOf_67 : decode cX7_problemOf 67 = .ok (.aload_n 0, 1) := by decide +kernel
theorem dX7_problemOf_68 : decode cX7_problemOf 68 = .ok (.getfield 12, 3) := by decide +kernel
theorem dX7_problemOf_71 : decode cX7_problemOf 71 = .ok (.aload_n 2, 1) := by decide +kernel
theorem dX7_problemOf_72 : decode cX7_problemOf 72 = .ok (.iconst 0, 1) := by decide +kernel
theorem dX7_problemOf_73 : decode cX7_problemOf 73 = .ok (.iaload, 1) := by decide +kernel
theorem dX7_problemOf_74 : decode cX7_problemOf 74 = .ok (.aload_n 2, 1) := by decide +kernel
theorem dX7_problemOf_75 : decode cX7_problemOf 75 = .ok (.iconst 1, 1) := by decide +kernel
theorem dX7_problemOf_76 : decode cX7_problemOf 76 = .ok (.iaload, 1) := by decide +kernel
theorem dX7_problemOf_77 : decode cX7_problemOf 77 = .ok (.invokevirtual 153, 3) := by decide +kernel
theorem dX7_problemOf_80 : decode cX7_problemOf 80 = .ok (.areturn, 1) := by decide +kernel
theorem dX7_problemOf_81 : decode cX7_problemOf 81 = .ok (.aload_n 0, 1) := by decide +kernel
theorem dX7_problemOf_82 : decode cX7_problemOf 82 = .ok (.getfield 12, 3) := by decide +kernel
theorem dX7_problemOf_85 : decode cX7_problemOf 85 = .ok (.aload_n 2, 1) := by decide +kernel
theorem dX7_problemOf_86 : decode cX7_problemOf 86 = .ok (.iconst 0, 1) := by decide +kernel
theorem dX7_problemOf_87 : decode cX7_problemOf 87 = .ok (.iaload, 1) := by decide +kernel
theorem dX7_problemOf_88 : decode cX7_problemOf 88 = .ok (.invokevirtual 157, 3) := by decide +kernel
theorem dX7_problemOf_91 : decode cX7_problemOf 91 = .ok (.areturn, 1) := by decide +kernel
theorem dX7_problemOf_92 : decode cX7_problemOf 92 = .ok (.aload_n 0, 1) := by decide +kernel
theorem dX7_problemOf_93 : decode cX7_problemOf 93 = .ok (.getfield 12, 3) := by decide +kernel
theorem dX7_problemOf_96 : decode cX7_problemOf 96 = .ok (.aload_n 2, 1) := by decide +kernel
theorem dX7_problemOf_97 : decode cX7_problemOf 97 = .ok (.iconst 0, 1) := by decide +kernel
theorem dX7_problemOf_98 : decode cX7_problemOf 98 = .ok (.iaload, 1) := by decide +kernel
theorem dX7_problemOf_99 : decode cX7_problemOf 99 = .ok (.aload_n 2, 1) := by decide +kernel
theorem dX7_problemOf_100 : decode cX7_problemOf 100 = .ok (.iconst 1, 1) := by decide +kernel
theorem dX7_problemOf_101 : decode cX7_problemOf 101 = .ok (.iaload, 1) := by decide +kernel
theorem dX7_problemOf_102 : decode cX7_problemOf 102 = .ok (.imul, 1) := by decide +kernel
theorem dX7_problemOf_103 : decode cX7_problemOf 103 = .ok (.invokevirtual 160, 3) := by decide +kernel
theorem dX7_problemOf_106 : decode cX7_problemOf 106 = .ok (.areturn, 1) := by decide +kernel
theorem dX7_problemOf_107 : decode cX7_problemOf 107 = .ok (.aload_n 0, 1) := by decide +kernel
theorem dX7_problemOf_108 : decode cX7_problemOf 108 = .ok (.getfield 21, 3) := by decide +kernel
theorem dX7_problemOf_111 : decode cX7_problemOf 111 = .ok (.invokevirtual 163, 3) := by decide +kernel
theorem dX7_problemOf_114 : decode cX7_problemOf 114 = .ok (.areturn, 1) := by decide +kernel
theorem dX7_problemOf_115 : decode cX7_problemOf 115 = .ok (.aload_n 0, 1) := by decide +kernel
theorem dX7_problemOf_116 : decode cX7_problemOf 116 = .ok (.aload_n 2, 1) := by decide +kernel
theorem dX7_problemOf_117 : decode cX7_problemOf 117 = .ok (.iconst 0, 1) := by decide +kernel
theorem dX7_problemOf_118 : decode cX7_problemOf 118 = .ok (.iaload, 1) := by decide +kernel
theorem dX7_problemOf_119 : decode cX7_problemOf 119 = .ok (.aload_n 2, 1) := by decide +kernel
theorem dX7_problemOf_120 : decode cX7_problemOf 120 = .ok (.iconst 1, 1) := by decide +kernel
theorem dX7_problemOf_121 : decode cX7_problemOf 121 = .ok (.iaload, 1) := by decide +kernel
theorem dX7_problemOf_122 : decode cX7_problemOf 122 = .ok (.aload_n 2, 1) := by decide +kernel
theorem dX7_problemOf_123 : decode cX7_problemOf 123 = .ok (.iconst 2, 1) := by decide +kernel
theorem dX7_problemOf_124 : decode cX7_problemOf 124 = .ok (.iaload, 1) := by decide +kernel
theorem dX7_problemOf_125 : decode cX7_problemOf 125 = .ok (.aload_n 2, 1) := by decide +kernel
theorem dX7_problemOf_126 : decode cX7_problemOf 126 = .ok (.iconst 3, 1) := by decide +kernel
theorem dX7_problemOf_127 : decode cX7_problemOf 127 = .ok (.iaload, 1) := by decide +kernel
theorem dX7_problemOf_128 : decode cX7_problemOf 128 = .ok (.invokevirtual 166, 3) := by decide +kernel
theorem dX7_problemOf_131 : decode cX7_problemOf 131 = .ok (.areturn, 1) := by decide +kernel
theorem dX7_problemOf_132 : decode cX7_problemOf 132 = .ok (.aload_n 0, 1) := by decide +kernel
theorem dX7_problemOf_133 : decode cX7_problemOf 133 = .ok (.aload_n 2, 1) := by decide +kernel
theorem dX7_problemOf_134 : decode cX7_problemOf 134 = .ok (.iconst 0, 1) := by decide +kernel
theorem dX7_problemOf_135 : decode cX7_problemOf 135 = .ok (.iaload, 1) := by decide +kernel
theorem dX7_problemOf_136 : decode cX7_problemOf 136 = .ok (.aload_n 2, 1) := by decide +kernel
theorem dX7_problemOf_137 : decode cX7_problemOf 137 = .ok (.iconst 1, 1) := by decide +kernel
theorem dX7_problemOf_138 : decode cX7_problemOf 138 = .ok (.iaload, 1) := by decide +kernel
theorem dX7_problemOf_139 : decode cX7_problemOf 139 = .ok (.invokevirtual 170, 3) := by decide +kernel
theorem dX7_problemOf_142 : decode cX7_problemOf 142 = .ok (.areturn, 1) := by decide +kernel
theorem dX7_problemOf_143 : decode cX7_problemOf 143 = .ok (.aload_n 0, 1) := by decide +kernel
theorem dX7_problemOf_144 : decode cX7_problemOf 144 = .ok (.aload_n 2, 1) := by decide +kernel
theorem dX7_problemOf_145 : decode cX7_problemOf 145 = .ok (.iconst 0, 1) := by decide +kernel
theorem dX7_problemOf_146 : decode cX7_problemOf 146 = .ok (.iaload, 1) := by decide +kernel
theorem dX7_problemOf_147 : decode cX7_problemOf 147 = .ok (.invokevirtual 173, 3) := by decide +kernel
theorem dX7_problemOf_150 : decode cX7_problemOf 150 = .ok (.areturn, 1) := by decide +kernel
theorem dX7_problemOf_151 : decode cX7_problemOf 151 = .ok (.getstatic 80, 3) := by decide +kernel
theorem dX7_problemOf_154 : decode cX7_problemOf 154 = .ok (.areturn, 1) := by decide +kernel
theorem dX7_carryOut_0 : decode cX7_carryOut 0 = .ok (.getstatic 139, 3) := by decide +kernel
theorem dX7_carryOut_3 : decode cX7_carryOut 3 = .ok (.aload_n 1, 1) := by decide +kernel
theorem dX7_carryOut_4 : decode cX7_carryOut 4 = .ok (.invokevirtual 144, 3) := by decide +kernel
theorem dX7_carryOut_7 : decode cX7_carryOut 7 = .ok (.iaload, 1) := by decide +kernel
theorem dX7_carryOut_8 : decode cX7_carryOut 8 = .ok (.tableswitch 185 1 9 #[52, 66, 83, 97, 126, 137, 160, 174, 115], 52) := by decide +kernel
theorem dX7_carryOut_60 : decode cX7_carryOut 60 = .ok (.aload_n 0, 1) := by decide +kernel
theorem dX7_carryOut_61 : decode cX7_carryOut 61 = .ok (.getfield 12, 3) := by decide +kernel
theorem dX7_carryOut_64 : decode cX7_carryOut 64 = .ok (.aload_n 2, 1) := by decide +kernel
theorem dX7_carryOut_65 : decode cX7_carryOut 65 = .ok (.iconst 0, 1) := by decide +kernel
theorem dX7_carryOut_66 : decode cX7_carryOut 66 = .ok (.iaload, 1) := by decide +kernel
theorem dX7_carryOut_67 : decode cX7_carryOut 67 = .ok (.invokevirtual 176, 3) := by decide +kernel
theorem dX7_carryOut_70 : decode cX7_carryOut 70 = .ok (.pop, 1) := by decide +kernel
theorem dX7_carryOut_71 : decode cX7_carryOut 71 = .ok (.goto 122, 3) := by decide +kernel
theorem dX7_carryOut_74 : decode cX7_carryOut 74 = .ok (.aload_n 0, 1) := by decide +kernel
theorem dX7_carryOut_75 : decode cX7_carryOut 75 = .ok (.getfield 12, 3) := by decide +kernel
theorem dX7_carryOut_78 : decode cX7_carryOut 78 = .ok (.aload_n 2, 1) := by decide +kernel
theorem dX7_carryOut_79 : decode cX7_carryOut 79 = .ok (.iconst 0, 1) := by decide +kernel
theorem dX7_carryOut_80 : decode cX7_carryOut 80 = .ok (.iaload, 1) := by decide +kernel
theorem dX7_carryOut_81 : decode cX7_carryOut 81 = .ok (.aload_n 2, 1) := by decide +kernel
theorem dX7_carryOut_82 : decode cX7_carryOut 82 = .ok (.iconst 1, 1) := by decide +kernel
theorem dX7_carryOut_83 : decode cX7_carryOut 83 = .ok (.iaload, 1) := by decide +kernel
theorem dX7_carryOut_84 : decode cX7_carryOut 84 = .ok (.invokevirtual 179, 3) := by decide +kernel
theorem dX7_carryOut_87 : decode cX7_carryOut 87 = .ok (.pop, 1) := by decide +kernel
theorem dX7_carryOut_88 : decode cX7_carryOut 88 = .ok (.goto 105, 3) := by decide +kernel
theorem dX7_carryOut_91 : decode cX7_carryOut 91 = .ok (.aload_n 0, 1) := by decide +kernel
theorem dX7_carryOut_92 : decode cX7_carryOut 92 = .ok (.getfield 12, 3) := by decide +kernel
theorem dX7_carryOut_95 : decode cX7_carryOut 95 = .ok (.aload_n 2, 1) := by decide +kernel
theorem dX7_carryOut_96 : decode cX7_carryOut 96 = .ok (.iconst 0, 1) := by decide +kernel
theorem dX7_carryOut_97 : decode cX7_carryOut 97 = .ok (.iaload, 1) := by decide +kernel
theorem dX7_carryOut_98 : decode cX7_carryOut 98 = .ok (.invokevirtual 182, 3) := by decide +kernel
theorem dX7_carryOut_101 : decode cX7_carryOut 101 = .ok (.pop, 1) := by decide +kernel
theorem dX7_carryOut_102 : decode cX7_carryOut 102 = .ok (.goto 91, 3) := by decide +kernel
theorem dX7_carryOut_105 : decode cX7_carryOut 105 = .ok (.aload_n 0, 1) := by decide +kernel
theorem dX7_carryOut_106 : decode cX7_carryOut 106 = .ok (.getfield 12, 3) := by decide +kernel
theorem dX7_carryOut_109 : decode cX7_carryOut 109 = .ok (.aload_n 2, 1) := by decide +kernel
theorem dX7_carryOut_110 : decode cX7_carryOut 110 = .ok (.iconst 0, 1) := by decide +kernel
theorem dX7_carryOut_111 : decode cX7_carryOut 111 = .ok (.iaload, 1) := by decide +kernel
theorem dX7_carryOut_112 : decode cX7_carryOut 112 = .ok (.aload_n 2, 1) := by decide +kernel
theorem dX7_carryOut_113 : decode cX7_carryOut 113 = .ok (.iconst 1, 1) := by decide +kernel
theorem dX7_carryOut_114 : decode cX7_carryOut 114 = .ok (.iaload, 1) := by decide +kernel
theorem dX7_carryOut_115 : decode cX7_carryOut 115 = .ok (.imul, 1) := by decide +kernel
theorem dX7_carryOut_116 : decode cX7_carryOut 116 = .ok (.invokevirtual 185, 3) := by decide +kernel
theorem dX7_carryOut_119 : decode cX7_carryOut 119 = .ok (.pop, 1) := by decide +kernel
theorem dX7_carryOut_120 : decode cX7_carryOut 120 = .ok (.goto 73, 3) := by decide +kernel
theorem dX7_carryOut_123 : decode cX7_carryOut 123 = .ok (.aload_n 0, 1) := by decide +kernel
theorem dX7_carryOut_124 : decode cX7_carryOut 124 = .ok (.getfield 12, 3) := by decide +kernel
theorem dX7_carryOut_127 : decode cX7_carryOut 127 = .ok (.invokevirtual 188, 3) := by decide +kernel
theorem dX7_carryOut_130 : decode cX7_carryOut 130 = .ok (.pop, 1) := by decide +kernel
theorem dX7_carryOut_131 : decode cX7_carryOut 131 = .ok (.goto 62, 3) := by decide +kernel
theorem dX7_carryOut_134 : decode cX7_carryOut 134 = .ok (.aload_n 0, 1) := by decide +kernel
theorem dX7_carryOut_135 : decode cX7_carryOut 135 = .ok (.getfield 21, 3) := by decide +kernel
theorem dX7_carryOut_138 : decode cX7_carryOut 138 = .ok (.invokevirtual 191, 3) := by decide +kernel
theorem dX7_carryOut_141 : decode cX7_carryOut 141 = .ok (.pop, 1) := by decide +kernel
theorem dX7_carryOut_142 : decode cX7_carryOut 142 = .ok (.goto 51, 3) := by decide +kernel
theorem dX7_carryOut_145 : decode cX7_carryOut 145 = .ok (.aload_n 0, 1) := by decide +kernel
theorem dX7_carryOut_146 : decode cX7_carryOut 146 = .ok (.getfield 21, 3) := by decide +kernel
theorem dX7_carryOut_149 : decode cX7_carryOut 149 = .ok (.aload_n 2, 1) := by decide +kernel
theorem dX7_carryOut_150 : decode cX7_carryOut 150 = .ok (.iconst 0, 1) := by decide +kernel
theorem dX7_carryOut_151 : decode cX7_carryOut 151 = .ok (.iaload, 1) := by decide +kernel
theorem dX7_carryOut_152 : decode cX7_carryOut 152 = .ok (.aload_n 2, 1) := by decide +kernel
theorem dX7_carryOut_153 : decode cX7_carryOut 153 = .ok (.iconst 1, 1) := by decide +kernel
theorem dX7_carryOut_154 : decode cX7_carryOut 154 = .ok (.iaload, 1) := by decide +kernel
theorem dX7_carryOut_155 : decode cX7_carryOut 155 = .ok (.aload_n 2, 1) := by decide +kernel
theorem dX7_carryOut_156 : decode cX7_carryOut 156 = .ok (.iconst 2, 1) := by decide +kernel
theorem dX7_carryOut_157 : decode cX7_carryOut 157 = .ok (.iaload, 1) := by decide +kernel
theorem dX7_carryOut_158 : decode cX7_carryOut 158 = .ok (.aload_n 2, 1) := by decide +kernel
theorem dX7_carryOut_159 : decode cX7_carryOut 159 = .ok (.iconst 3, 1) := by decide +kernel
theorem dX7_carryOut_160 : decode cX7_carryOut 160 = .ok (.iaload, 1) := by decide +kernel
theorem dX7_carryOut_161 : decode cX7_carryOut 161 = .ok (.invokevirtual 193, 3) := by decide +kernel
theorem dX7_carryOut_164 : decode cX7_carryOut 164 = .ok (.pop, 1) := by decide +kernel
theorem dX7_carryOut_165 : decode cX7_carryOut 165 = .ok (.goto 28, 3) := by decide +kernel
theorem dX7_carryOut_168 : decode cX7_carryOut 168 = .ok (.aload_n 0, 1) := by decide +kernel
theorem dX7_carryOut_169 : decode cX7_carryOut 169 = .ok (.aload_n 2, 1) := by decide +kernel
theorem dX7_carryOut_170 : decode cX7_carryOut 170 = .ok (.iconst 0, 1) := by decide +kernel
theorem dX7_carryOut_171 : decode cX7_carryOut 171 = .ok (.iaload, 1) := by decide +kernel
theorem dX7_carryOut_172 : decode cX7_carryOut 172 = .ok (.aload_n 2, 1) := by decide +kernel
theorem dX7_carryOut_173 : decode cX7_carryOut 173 = .ok (.iconst 1, 1) := by decide +kernel
theorem dX7_carryOut_174 : decode cX7_carryOut 174 = .ok (.iaload, 1) := by decide +kernel
theorem dX7_carryOut_175 : decode cX7_carryOut 175 = .ok (.invokevirtual 197, 3) := by decide +kernel
theorem dX7_carryOut_178 : decode cX7_carryOut 178 = .ok (.pop, 1) := by decide +kernel
theorem dX7_carryOut_179 : decode cX7_carryOut 179 = .ok (.goto 14, 3) := by decide +kernel
theorem dX7_carryOut_182 : decode cX7_carryOut 182 = .ok (.aload_n 0, 1) := by decide +kernel
theorem dX7_carryOut_183 : decode cX7_carryOut 183 = .ok (.aload_n 2, 1) := by decide +kernel
theorem dX7_carryOut_184 : decode cX7_carryOut 184 = .ok (.iconst 0, 1) := by decide +kernel
theorem dX7_carryOut_185 : decode cX7_carryOut 185 = .ok (.iaload, 1) := by decide +kernel
theorem dX7_carryOut_186 : decode cX7_carryOut 186 = .ok (.invokevirtual 200, 3) := by decide +kernel
theorem dX7_carryOut_189 : decode cX7_carryOut 189 = .ok (.pop, 1) := by decide +kernel
theorem dX7_carryOut_190 : decode cX7_carryOut 190 = .ok (.goto 3, 3) := by decide +kernel
theorem dX7_carryOut_193 : decode cX7_carryOut 193 = .ok (.return_, 1) := by decide +kernel
