theorem dX3_init_0 : decode cX3_init 0 = .ok (.aload_n 0, 1) := by decide +kernel
theorem dX3_init_1 : decode cX3_init 1 = .ok (.invokespecial 3, 3) := by decide +kernel
theorem dX3_init_4 : decode cX3_init 4 = .ok (.aload_n 0, 1) := by decide +kernel
theorem dX3_init_5 : decode cX3_init 5 = .ok (.bipush 10, 2) := by decide +kernel
theorem dX3_init_7 : decode cX3_init 7 = .ok (.newarray .int, 2) := by decide +kernel
theorem dX3_init_9 : decode cX3_init 9 = .ok (.putfield 9, 3) := by decide +kernel
theorem dX3_init_12 : decode cX3_init 12 = .ok (.aload_n 0, 1) := by decide +kernel
theorem dX3_init_13 : decode cX3_init 13 = .ok (.bipush 10, 2) := by decide +kernel
theorem dX3_init_15 : decode cX3_init 15 = .ok (.newarray .int, 2) := by decide +kernel
theorem dX3_init_17 : decode cX3_init 17 = .ok (.putfield 15, 3) := by decide +kernel
theorem dX3_init_20 : decode cX3_init 20 = .ok (.aload_n 0, 1) := by decide +kernel
theorem dX3_init_21 : decode cX3_init 21 = .ok (.iconst 0, 1) := by decide +kernel
theorem dX3_init_22 : decode cX3_init 22 = .ok (.putfield 18, 3) := by decide +kernel
theorem dX3_init_25 : decode cX3_init 25 = .ok (.aload_n 0, 1) := by decide +kernel
theorem dX3_init_26 : decode cX3_init 26 = .ok (.bipush 40, 2) := by decide +kernel
theorem dX3_init_28 : decode cX3_init 28 = .ok (.putfield 22, 3) := by decide +kernel
theorem dX3_init_31 : decode cX3_init 31 = .ok (.aload_n 0, 1) := by decide +kernel
theorem dX3_init_32 : decode cX3_init 32 = .ok (.iconst 0, 1) := by decide +kernel
theorem dX3_init_33 : decode cX3_init 33 = .ok (.putfield 25, 3) := by decide +kernel
theorem dX3_init_36 : decode cX3_init 36 = .ok (.return_, 1) := by decide +kernel
theorem dX3_copyFrom_0 : decode cX3_copyFrom 0 = .ok (.aload_n 1, 1) := by decide +kernel
theorem dX3_copyFrom_1 : decode cX3_copyFrom 1 = .ok (.getfield 9, 3) := by decide +kernel
theorem dX3_copyFrom_4 : decode cX3_copyFrom 4 = .ok (.iconst 0, 1) := by decide +kernel
theorem dX3_copyFrom_5 : decode cX3_copyFrom 5 = .ok (.aload_n 0, 1) := by decide +kernel
theorem dX3_copyFrom_6 : decode cX3_copyFrom 6 = .ok (.getfield 9, 3) := by decide +kernel
theorem dX3_copyFrom_9 : decode cX3_copyFrom 9 = .ok (.iconst 0, 1) := by decide +kernel
theorem dX3_copyFrom_10 : decode cX3_copyFrom 10 = .ok (.bipush 10, 2) := by decide +kernel
theorem dX3_copyFrom_12 : decode cX3_copyFrom 12 = .ok (.invokestatic 28, 3) := by decide +kernel
theorem dX3_copyFrom_15 : decode cX3_copyFrom 15 = .ok (.aload_n 1, 1) := by decide +kernel
theorem dX3_copyFrom_16 : decode cX3_copyFrom 16 = .ok (.getfield 15, 3) := by decide +kernel
theorem dX3_copyFrom_19 : decode cX3_copyFrom 19 = .ok (.iconst 0, 1) := by decide +kernel
theorem dX3_copyFrom_20 : decode cX3_copyFrom 20 = .ok (.aload_n 0, 1) := by decide +kernel
theorem dX3_copyFrom_21 : decode cX3_copyFrom 21 = .ok (.getfield 15, 3) := by decide +kernel
theorem dX3_copyFrom_24 : decode cX3_copyFrom 24 = .ok (.iconst 0, 1) := by decide +kernel
theorem dX3_copyFrom_25 : decode cX3_copyFrom 25 = .ok (.bipush 10, 2) := by decide +kernel
theorem dX3_copyFrom_27 : decode cX3_copyFrom 27 = .ok (.invokestatic 28, 3) := by decide +kernel
theorem dX3_copyFrom_30 : decode cX3_copyFrom 30 = .ok (.aload_n 0, 1) := by decide +kernel
theorem dX3_copyFrom_31 : decode cX3_copyFrom 31 = .ok (.aload_n 1, 1) := by decide +kernel
theorem dX3_copyFrom_32 : decode cX3_copyFrom 32 = .ok (.getfield 18, 3) := by decide +kernel
theorem dX3_copyFrom_35 : decode cX3_copyFrom 35 = .ok (.putfield 18, 3) := by decide +kernel
theorem dX3_copyFrom_38 : decode cX3_copyFrom 38 = .ok (.aload_n 0, 1) := by decide +kernel
theorem dX3_copyFrom_39 : decode cX3_copyFrom 39 = .ok (.aload_n 1, 1) := by decide +kernel
theorem dX3_copyFrom_40 : decode cX3_copyFrom 40 = .ok (.getfield 22, 3) := by decide +kernel
theorem dX3_copyFrom_43 : decode cX3_copyFrom 43 = .ok (.putfield 22, 3) := by decide +kernel
theorem dX3_copyFrom_46 : decode cX3_copyFrom 46 = .ok (.aload_n 0, 1) := by decide +kernel
theorem dX3_copyFrom_47 : decode cX3_copyFrom 47 = .ok (.aload_n 1, 1) := by decide +kernel
theorem dX3_copyFrom_48 : decode cX3_copyFrom 48 = .ok (.getfield 25, 3) := by decide +kernel
theorem dX3_copyFrom_51 : decode cX3_copyFrom 51 = .ok (.putfield 25, 3) := by decide +kernel
theorem dX3_copyFrom_54 : decode cX3_copyFrom 54 = .ok (.return_, 1) := by decide +kernel
theorem dX3_has_0 : decode cX3_has 0 = .ok (.iload_n 1, 1) := by decide +kernel
theorem dX3_has_1 : decode cX3_has 1 = .ok (.ifCond .lt 15, 3) := by decide +kernel
theorem dX3_has_4 : decode cX3_has 4 = .ok (.iload_n 1, 1) := by decide +kernel
theorem dX3_has_5 : decode cX3_has 5 = .ok (.aload_n 0, 1) := by decide +kernel
theorem dX3_has_6 : decode cX3_has 6 = .ok (.getfield 18, 3) := by decide +kernel
theorem dX3_has_9 : decode cX3_has 9 = .ok (.if_icmp .ge 7, 3) := by decide +kernel
theorem dX3_has_12 : decode cX3_has 12 = .ok (.iconst 1, 1) := by decide +kernel
theorem dX3_has_13 : decode cX3_has 13 = .ok (.goto 4, 3) := by decide +kernel
theorem dX3_has_16 : decode cX3_has 16 = .ok (.iconst 0, 1) := by decide +kernel
theorem dX3_has_17 : decode cX3_has 17 = .ok (.ireturn, 1) := by decide +kernel
theorem dX3_problemOfAdding_0 : decode cX3_problemOfAdding 0 = .ok (.iload_n 1, 1) := by decide +kernel
theorem dX3_problemOfAdding_1 : decode cX3_problemOfAdding 1 = .ok (.ifCond .lt 9, 3) := by decide +kernel
theorem dX3_problemOfAdding_4 : decode cX3_problemOfAdding 4 = .ok (.iload_n 1, 1) := by decide +kernel
theorem dX3_problemOfAdding_5 : decode cX3_problemOfAdding 5 = .ok (.bipush 99, 2) := by decide +kernel
theorem dX3_problemOfAdding_7 : decode cX3_problemOfAdding 7 = .ok (.if_icmp .le 7, 3) := by decide +kernel
theorem dX3_problemOfAdding_10 : decode cX3_problemOfAdding 10 = .ok (.getstatic 34, 3) := by decide +kernel
theorem dX3_problemOfAdding_13 : decode cX3_problemOfAdding 13 = .ok (.areturn, 1) := by decide +kernel
theorem dX3_problemOfAdding_14 : decode cX3_problemOfAdding 14 = .ok (.aload_n 0, 1) := by decide +kernel
theorem dX3_problemOfAdding_15 : decode cX3_problemOfAdding 15 = .ok (.iload_n 1, 1) := by decide +kernel
theorem dX3_problemOfAdding_16 : decode cX3_problemOfAdding 16 = .ok (.invokevirtual 40, 3) := by decide +kernel
theorem dX3_problemOfAdding_19 : decode cX3_problemOfAdding 19 = .ok (.ifCond .eq 7, 3) := by decide +kernel
theorem dX3_problemOfAdding_22 : decode cX3_problemOfAdding 22 = .ok (.getstatic 44, 3) := by decide +kernel
theorem dX3_problemOfAdding_25 : decode cX3_problemOfAdding 25 = .ok (.areturn, 1) := by decide +kernel
theorem dX3_problemOfAdding_26 : decode cX3_problemOfAdding 26 = .ok (.aload_n 0, 1) := by decide +kernel
theorem dX3_problemOfAdding_27 : decode cX3_problemOfAdding 27 = .ok (.getfield 18, 3) := by decide +kernel
theorem dX3_problemOfAdding_30 : decode cX3_problemOfAdding 30 = .ok (.bipush 10, 2) := by decide +kernel
theorem dX3_problemOfAdding_32 : decode cX3_problemOfAdding 32 = .ok (.if_icmp .ge 9, 3) := by decide +kernel
theorem dX3_problemOfAdding_35 : decode cX3_problemOfAdding 35 = .ok (.getstatic 47, 3) := by decide +kernel
theorem dX3_problemOfAdding_38 : decode cX3_problemOfAdding 38 = .ok (.goto 6, 3) := by decide +kernel
theorem dX3_problemOfAdding_41 : decode cX3_problemOfAdding 41 = .ok (.getstatic 50, 3) := by decide +kernel
theorem dX3_problemOfAdding_44 : decode cX3_problemOfAdding 44 = .ok (.areturn, 1) := by decide +kernel
theorem dX3_isTaken_0 : decode cX3_isTaken 0 = .ok (.iconst 0, 1) := by decide +kernel
theorem dX3_isTaken_1 : decode cX3_isTaken 1 = .ok (.istore_n 2, 1) := by decide +kernel
theorem dX3_isTaken_2 : decode cX3_isTaken 2 = .ok (.iload_n 2, 1) := by decide +kernel
theorem dX3_isTaken_3 : decode cX3_isTaken 3 = .ok (.aload_n 0, 1) := by decide +kernel
theorem dX3_isTaken_4 : decode cX3_isTaken 4 = .ok (.getfield 18, 3) := by decide +kernel
theorem dX3_isTaken_7 : decode cX3_isTaken 7 = .ok (.if_icmp .ge 21, 3) := by decide +kernel
theorem dX3_isTaken_10 : decode cX3_isTaken 10 = .ok (.aload_n 0, 1) := by decide +kernel
theorem dX3_isTaken_11 : decode cX3_isTaken 11 = .ok (.getfield 9, 3) := by decide +kernel
theorem dX3_isTaken_14 : decode cX3_isTaken 14 = .ok (.iload_n 2, 1) := by decide +kernel
theorem dX3_isTaken_15 : decode cX3_isTaken 15 = .ok (.iaload, 1) := by decide +kernel
theorem dX3_isTaken_16 : decode cX3_isTaken 16 = .ok (.iload_n 1, 1) := by decide +kernel
theorem dX3_isTaken_17 : decode cX3_isTaken 17 = .ok (.if_icmp .ne 5, 3) := by decide +kernel
theorem dX3_isTaken_20 : decode cX3_isTaken 20 = .ok (.iconst 1, 1) := by decide +kernel
theorem dX3_isTaken_21 : decode cX3_isTaken 21 = .ok (.ireturn, 1) := by decide +kernel
theorem dX3_isTaken_22 : decode cX3_isTaken 22 = .ok (.iinc 2 1, 3) := by decide +kernel
theorem dX3_isTaken_25 : decode cX3_isTaken 25 = .ok (.goto (-23), 3) := by decide +kernel
theorem dX3_isTaken_28 : decode cX3_isTaken 28 = .ok (.iconst 0, 1) := by decide +kernel
theorem dX3_isTaken_29 : decode cX3_isTaken 29 = .ok (.ireturn, 1) := by decide +kernel
theorem dX3_append_0 : decode cX3_append 0 = .ok (.aload_n 0, 1) := by decide +kernel
theorem dX3_append_1 : decode cX3_append 1 = .ok (.getfield 9, 3) := by decide +kernel
theorem dX3_append_4 : decode cX3_append 4 = .ok (.aload_n 0, 1) := by decide +kernel
theorem dX3_append_5 : decode cX3_append 5 = .ok (.getfield 18, 3) := by decide +kernel
theorem dX3_append_8 : decode cX3_append 8 = .ok (.iload_n 1, 1) := by decide +kernel
theorem dX3_append_9 : decode cX3_append 9 = .ok (.iastore, 1) := by decide +kernel
theorem dX3_append_10 : decode cX3_append 10 = .ok (.aload_n 0, 1) := by decide +kernel
theorem dX3_append_11 : decode cX3_append 11 = .ok (.getfield 15, 3) := by decide +kernel
theorem dX3_append_14 : decode cX3_append 14 = .ok (.aload_n 0, 1) := by decide +kernel
theorem dX3_append_15 : decode cX3_append 15 = .ok (.getfield 18, 3) := by decide +kernel
theorem dX3_append_18 : decode cX3_append 18 = .ok (.iconst 0, 1) := by decide +kernel
theorem dX3_append_19 : decode cX3_append 19 = .ok (.iastore, 1) := by decide +kernel
theorem dX3_append_20 : decode cX3_append 20 = .ok (.aload_n 0, 1) := by decide +kernel
theorem dX3_append_21 : decode cX3_append 21 = .ok (.dup, 1) := by decide +kernel
theorem dX3_append_22 : decode cX3_append 22 = .ok (.getfield 18, 3) := by decide +kernel
theorem dX3_append_25 : decode cX3_append 25 = .ok (.iconst 1, 1) := by decide +kernel
theorem dX3_append_26 : decode cX3_append 26 = .ok (.iadd, 1) := by decide +kernel
theorem dX3_append_27 : decode cX3_append 27 = .ok (.putfield 18, 3) := by decide +kernel
theorem dX3_append_30 : decode cX3_append 30 = .ok (.aload_n 0, 1) := by decide +kernel
theorem dX3_append_31 : decode cX3_append 31 = .ok (.getfield 18, 3) := by decide +kernel
theorem dX3_append_34 : decode cX3_append 34 = .ok (.iconst 1, 1) := by decide +kernel
theorem dX3_append_35 : decode cX3_append 35 = .ok (.isub, 1) := by decide +kernel
theorem dX3_append_36 : decode cX3_append 36 = .ok (.ireturn, 1) := by decide +kernel
theorem dX3_drop_0 : decode cX3_drop 0 = .ok (.aload_n 0, 1) := by decide +kernel
theorem dX3_drop_1 : decode cX3_drop 1 = .ok (.dup, 1) := by decide +kernel
theorem dX3_drop_2 : decode cX3_drop 2 = .ok (.getfield 18, 3) := by decide +kernel
theorem dX3_drop_5 : decode cX3_drop 5 = .ok (.iconst 1, 1) := by decide +kernel
theorem dX3_drop_6 : decode cX3_drop 6 = .ok (.isub, 1) := by decide +kernel
theorem dX3_drop_7 : decode cX3_drop 7 = .ok (.putfield 18, 3) := by decide +kernel
theorem dX3_drop_10 : decode cX3_drop 10 = .ok (.iload_n 1, 1) := by decide +kernel
theorem dX3_drop_11 : decode cX3_drop 11 = .ok (.istore_n 2, 1) := by decide +kernel
theorem dX3_drop_12 : decode cX3_drop 12 = .ok (.iload_n 2, 1) := by decide +kernel
theorem dX3_drop_13 : decode cX3_drop 13 = .ok (.aload_n 0, 1) := by decide +kernel
theorem dX3_drop_14 : decode cX3_drop 14 = .ok (.getfield 18, 3) := by decide +kernel
theorem dX3_drop_17 : decode cX3_drop 17 = .ok (.if_icmp .ge 37, 3) := by decide +kernel
theorem dX3_drop_20 : decode cX3_drop 20 = .ok (.aload_n 0, 1) := by decide +kernel
theorem dX3_drop_21 : decode cX3_drop 21 = .ok (.getfield 9, 3) := by decide +kernel
theorem dX3_drop_24 : decode cX3_drop 24 = .ok (.iload_n 2, 1) := by decide +kernel
theorem dX3_drop_25 : decode cX3_drop 25 = .ok (.aload_n 0, 1) := by decide +kernel
theorem dX3_drop_26 : decode cX3_drop 26 = .ok (.getfield 9, 3) := by decide +kernel
theorem dX3_drop_29 : decode cX3_drop 29 = .ok (.iload_n 2, 1) := by decide +kernel
theorem dX3_drop_30 : decode cX3_drop 30 = .ok (.iconst 1, 1) := by decide +kernel
theorem dX3_drop_31 : decode cX3_drop 31 = .ok (.iadd, 1) := by decide +kernel
theorem dX3_drop_32 : decode cX3_drop 32 = .ok (.iaload, 1) := by decide +kernel
theorem dX3_drop_33 : decode cX3_drop 33 = .ok (.iastore, 1) := by decide +kernel
theorem dX3_drop_34 : decode cX3_drop 34 = .ok (.aload_n 0, 1) := by decide +kernel
theorem dX3_drop_35 : decode cX3_drop 35 = .ok (.getfield 15, 3) := by decide +kernel
theorem dX3_drop_38 : decode cX3_drop 38 = .ok (.iload_n 2, 1) := by decide +kernel
theorem dX3_drop_39 : decode cX3_drop 39 = .ok (.aload_n 0, 1) := by decide +kernel
theorem dX3_drop_40 : decode cX3_drop 40 = .ok (.getfield 15, 3) := by decide +kernel
theorem dX3_drop_43 : decode cX3_drop 43 = .ok (.iload_n 2, 1) := by decide +kernel
theorem dX3_drop_44 : decode cX3_drop 44 = .ok (.iconst 1, 1) := by decide +kernel
theorem dX3_drop_45 : decode cX3_drop 45 = .ok (.iadd, 1) := by decide +kernel
theorem dX3_drop_46 : decode cX3_drop 46 = .ok (.iaload, 1) := by decide +kernel
theorem dX3_drop_47 : decode cX3_drop 47 = .ok (.iastore, 1) := by decide +kernel
theorem dX3_drop_48 : decode cX3_drop 48 = .ok (.iinc 2 1, 3) := by decide +kernel
theorem dX3_drop_51 : decode cX3_drop 51 = .ok (.goto (-39), 3) := by decide +kernel
theorem dX3_drop_54 : decode cX3_drop 54 = .ok (.return_, 1) := by decide +kernel
theorem dX3_problemOfOpening_0 : decode cX3_problemOfOpening 0 = .ok (.aload_n 0, 1) := by decide +kernel
theorem dX3_problemOfOpening_1 : decode cX3_problemOfOpening 1 = .ok (.iload_n 1, 1) := by decide +kernel
theorem dX3_problemOfOpening_2 : decode cX3_problemOfOpening 2 = .ok (.invokevirtual 53, 3) := by decide +kernel
theorem dX3_problemOfOpening_5 : decode cX3_problemOfOpening 5 = .ok (.ifCond .ne 7, 3) := by decide +kernel
theorem dX3_problemOfOpening_8 : decode cX3_problemOfOpening 8 = .ok (.getstatic 56, 3) := by decide +kernel
theorem dX3_problemOfOpening_11 : decode cX3_problemOfOpening 11 = .ok (.areturn, 1) := by decide +kernel
theorem dX3_problemOfOpening_12 : decode cX3_problemOfOpening 12 = .ok (.iload_n 2, 1) := by decide +kernel
theorem dX3_problemOfOpening_13 : decode cX3_problemOfOpening 13 = .ok (.ifCond .lt 9, 3) := by decide +kernel
theorem dX3_problemOfOpening_16 : decode cX3_problemOfOpening 16 = .ok (.iload_n 2, 1) := by decide +kernel
theorem dX3_problemOfOpening_17 : decode cX3_problemOfOpening 17 = .ok (.bipush 10, 2) := by decide +kernel
theorem dX3_problemOfOpening_19 : decode cX3_problemOfOpening 19 = .ok (.if_icmp .le 9, 3) := by decide +kernel
theorem dX3_problemOfOpening_22 : decode cX3_problemOfOpening 22 = .ok (.getstatic 34, 3) := by decide +kernel
theorem dX3_problemOfOpening_25 : decode cX3_problemOfOpening 25 = .ok (.goto 6, 3) := by decide +kernel
theorem dX3_problemOfOpening_28 : decode cX3_problemOfOpening 28 = .ok (.getstatic 47, 3) := by decide +kernel
theorem dX3_problemOfOpening_31 : decode cX3_problemOfOpening 31 = .ok (.areturn, 1) := by decide +kernel
theorem dX3_changeOpening_0 : decode cX3_changeOpening 0 = .ok (.aload_n 0, 1) := by decide +kernel
theorem dX3_changeOpening_1 : decode cX3_changeOpening 1 = .ok (.getfield 15, 3) := by decide +kernel
theorem dX3_changeOpening_4 : decode cX3_changeOpening 4 = .ok (.iload_n 1, 1) := by decide +kernel
theorem dX3_changeOpening_5 : decode cX3_changeOpening 5 = .ok (.iaload, 1) := by decide +kernel
theorem dX3_changeOpening_6 : decode cX3_changeOpening 6 = .ok (.istore_n 3, 1) := by decide +kernel
theorem dX3_changeOpening_7 : decode cX3_changeOpening 7 = .ok (.aload_n 0, 1) := by decide +kernel
theorem dX3_changeOpening_8 : decode cX3_changeOpening 8 = .ok (.getfield 15, 3) := by decide +kernel
theorem dX3_changeOpening_11 : decode cX3_changeOpening 11 = .ok (.iload_n 1, 1) := by decide +kernel
theorem dX3_changeOpening_12 : decode cX3_changeOpening 12 = .ok (.iload_n 2, 1) := by decide +kernel
theorem dX3_changeOpening_13 : decode cX3_changeOpening 13 = .ok (.iastore, 1) := by decide +kernel
theorem dX3_changeOpening_14 : decode cX3_changeOpening 14 = .ok (.iload_n 3, 1) := by decide +kernel
theorem dX3_changeOpening_15 : decode cX3_changeOpening 15 = .ok (.ireturn, 1) := by decide +kernel
theorem dX3_problemOfCapacity_0 : decode cX3_problemOfCapacity 0 = .ok (.iload_n 1, 1) := by decide +kernel
theorem dX3_problemOfCapacity_1 : decode cX3_problemOfCapacity 1 = .ok (.ifCond .lt 9, 3) := by decide +kernel
theorem dX3_problemOfCapacity_4 : decode cX3_problemOfCapacity 4 = .ok (.iload_n 1, 1) := by decide +kernel
theorem dX3_problemOfCapacity_5 : decode cX3_problemOfCapacity 5 = .ok (.bipush 100, 2) := by decide +kernel
theorem dX3_problemOfCapacity_7 : decode cX3_problemOfCapacity 7 = .ok (.if_icmp .le 9, 3) := by decide +kernel
theorem dX3_problemOfCapacity_10 : decode cX3_problemOfCapacity 10 = .ok (.getstatic 34, 3) := by decide +kernel
theorem dX3_problemOfCapacity_13 : decode cX3_problemOfCapacity 13 = .ok (.goto 6, 3) := by decide +kernel
theorem dX3_problemOfCapacity_16 : decode cX3_problemOfCapacity 16 = .ok (.getstatic 47, 3) := by decide +kernel
theorem dX3_problemOfCapacity_19 : decode cX3_problemOfCapacity 19 = .ok (.areturn, 1) := by decide +kernel
theorem dX3_changeCapacity_0 : decode cX3_changeCapacity 0 = .ok (.aload_n 0, 1) := by decide +kernel
theorem dX3_changeCapacity_1 : decode cX3_changeCapacity 1 = .ok (.getfield 22, 3) := by decide +kernel
theorem dX3_changeCapacity_4 : decode cX3_changeCapacity 4 = .ok (.istore_n 2, 1) := by decide +kernel
theorem dX3_changeCapacity_5 : decode cX3_changeCapacity 5 = .ok (.aload_n 0, 1) := by decide +kernel
theorem dX3_changeCapacity_6 : decode cX3_changeCapacity 6 = .ok (.iload_n 1, 1) := by decide +kernel
theorem dX3_changeCapacity_7 : decode cX3_changeCapacity 7 = .ok (.putfield 22, 3) := by decide +kernel
theorem dX3_changeCapacity_10 : decode cX3_changeCapacity 10 = .ok (.iload_n 2, 1) := by decide +kernel
theorem dX3_changeCapacity_11 : decode cX3_changeCapacity 11 = .ok (.ireturn, 1) := by decide +kernel
theorem dX3_problemOfWind_0 : decode cX3_problemOfWind 0 = .ok (.iload_n 1, 1) := by decide +kernel
theorem dX3_problemOfWind_1 : decode cX3_problemOfWind 1 = .ok (.bipush (-9), 2) := by decide +kernel
theorem dX3_problemOfWind_3 : decode cX3_problemOfWind 3 = .ok (.if_icmp .lt 9, 3) := by decide +kernel
theorem dX3_problemOfWind_6 : decode cX3_problemOfWind 6 = .ok (.iload_n 1, 1) := by decide +kernel
theorem dX3_problemOfWind_7 : decode cX3_problemOfWind 7 = .ok (.bipush 9, 2) := by decide +kernel
theorem dX3_problemOfWind_9 : decode cX3_problemOfWind 9 = .ok (.if_icmp .le 9, 3) := by decide +kernel
theorem dX3_problemOfWind_12 : decode cX3_problemOfWind 12 = .ok (.getstatic 34, 3) := by decide +kernel
theorem dX3_problemOfWind_15 : decode cX3_problemOfWind 15 = .ok (.goto 6, 3) := by decide +kernel
theorem dX3_problemOfWind_18 : decode cX3_problemOfWind 18 = .ok (.getstatic 47, 3) := by decide +kernel
theorem dX3_problemOfWind_21 : decode cX3_problemOfWind 21 = .ok (.areturn, 1) := by decide +kernel
theorem dX3_changeWind_0 : decode cX3_changeWind 0 = .ok (.aload_n 0, 1) := by decide +kernel
theorem dX3_changeWind_1 : decode cX3_changeWind 1 = .ok (.getfield 25, 3) := by decide +kernel
theorem dX3_changeWind_4 : decode cX3_changeWind 4 = .ok (.istore_n 2, 1) := by decide +kernel
theorem dX3_changeWind_5 : decode cX3_changeWind 5 = .ok (.aload_n 0, 1) := by decide +kernel
theorem dX3_changeWind_6 : decode cX3_changeWind 6 = .ok (.iload_n 1, 1) := by decide +kernel
theorem dX3_changeWind_7 : decode cX3_changeWind 7 = .ok (.putfield 25, 3) := by decide +kernel
theorem dX3_changeWind_10 : decode cX3_changeWind 10 = .ok (.iload_n 2, 1) := by decide +kernel
theorem dX3_changeWind_11 : decode cX3_changeWind 11 = .ok (.ireturn, 1) := by decide +kernel
theorem dX3_sumOfOpenings_0 : decode cX3_sumOfOpenings 0 = .ok (.iconst 0, 1) := by decide +kernel
theorem dX3_sumOfOpenings_1 : decode cX3_sumOfOpenings 1 = .ok (.istore_n 1, 1) := by decide +kernel
theorem dX3_sumOfOpenings_2 : decode cX3_sumOfOpenings 2 = .ok (.iconst 0, 1) := by decide +kernel
theorem dX3_sumOfOpenings_3 : decode cX3_sumOfOpenings 3 = .ok (.istore_n 2, 1) := by decide +kernel
theorem dX3_sumOfOpenings_4 : decode cX3_sumOfOpenings 4 = .ok (.iload_n 2, 1) := by decide +kernel
theorem dX3_sumOfOpenings_5 : decode cX3_sumOfOpenings 5 = .ok (.aload_n 0, 1) := by decide +kernel
theorem dX3_sumOfOpenings_6 : decode cX3_sumOfOpenings 6 = .ok (.getfield 18, 3) := by decide +kernel
theorem dX3_sumOfOpenings_9 : decode cX3_sumOfOpenings 9 = .ok (.if_icmp .ge 18, 3) := by decide +kernel
theorem dX3_sumOfOpenings_12 : decode cX3_sumOfOpenings 12 = .ok (.iload_n 1, 1) := by decide +kernel
theorem dX3_sumOfOpenings_13 : decode cX3_sumOfOpenings 13 = .ok (.aload_n 0, 1) := by decide +kernel
theorem dX3_sumOfOpenings_14 : decode cX3_sumOfOpenings 14 = .ok (.getfield 15, 3) := by decide +kernel
theorem dX3_sumOfOpenings_17 : decode cX3_sumOfOpenings 17 = .ok (.iload_n 2, 1) := by decide +kernel
theorem dX3_sumOfOpenings_18 : decode cX3_sumOfOpenings 18 = .ok (.iaload, 1) := by decide +kernel
theorem dX3_sumOfOpenings_19 : decode cX3_sumOfOpenings 19 = .ok (.iadd, 1) := by decide +kernel
theorem dX3_sumOfOpenings_20 : decode cX3_sumOfOpenings 20 = .ok (.istore_n 1, 1) := by decide +kernel
theorem dX3_sumOfOpenings_21 : decode cX3_sumOfOpenings 21 = .ok (.iinc 2 1, 3) := by decide +kernel
theorem dX3_sumOfOpenings_24 : decode cX3_sumOfOpenings 24 = .ok (.goto (-20), 3) := by decide +kernel
theorem dX3_sumOfOpenings_27 : decode cX3_sumOfOpenings 27 = .ok (.iload_n 1, 1) := by decide +kernel
theorem dX3_sumOfOpenings_28 : decode cX3_sumOfOpenings 28 = .ok (.ireturn, 1) := by decide +kernel
theorem dX3_supplyFor_0 : decode cX3_supplyFor 0 = .ok (.iload_n 1, 1) := by decide +kernel
theorem dX3_supplyFor_1 : decode cX3_supplyFor 1 = .ok (.aload_n 0, 1) := by decide +kernel
theorem dX3_supplyFor_2 : decode cX3_supplyFor 2 = .ok (.getfield 22, 3) := by decide +kernel
theorem dX3_supplyFor_5 : decode cX3_supplyFor 5 = .ok (.invokestatic 59, 3) := by decide +kernel
theorem dX3_supplyFor_8 : decode cX3_supplyFor 8 = .ok (.ireturn, 1) := by decide +kernel
theorem dX3_heightOf_0 : decode cX3_heightOf 0 = .ok (.bipush 10, 2) := by decide +kernel
theorem dX3_heightOf_2 : decode cX3_heightOf 2 = .ok (.aload_n 0, 1) := by decide +kernel
theorem dX3_heightOf_3 : decode cX3_heightOf 3 = .ok (.getfield 15, 3) := by decide +kernel
theorem dX3_heightOf_6 : decode cX3_heightOf 6 = .ok (.iload_n 1, 1) := by decide +kernel
theorem dX3_heightOf_7 : decode cX3_heightOf 7 = .ok (.iaload, 1) := by decide +kernel
theorem dX3_heightOf_8 : decode cX3_heightOf 8 = .ok (.imul, 1) := by decide +kernel
theorem dX3_heightOf_9 : decode cX3_heightOf 9 = .ok (.istore_n 3, 1) := by decide +kernel
theorem dX3_heightOf_10 : decode cX3_heightOf 10 = .ok (.iload_n 2, 1) := by decide +kernel
theorem dX3_heightOf_11 : decode cX3_heightOf 11 = .ok (.ifCond .le 22, 3) := by decide +kernel
theorem dX3_heightOf_14 : decode cX3_heightOf 14 = .ok (.iload_n 2, 1) := by decide +kernel
theorem dX3_heightOf_15 : decode cX3_heightOf 15 = .ok (.aload_n 0, 1) := by decide +kernel
theorem dX3_heightOf_16 : decode cX3_heightOf 16 = .ok (.getfield 22, 3) := by decide +kernel
theorem dX3_heightOf_19 : decode cX3_heightOf 19 = .ok (.if_icmp .le 14, 3) := by decide +kernel
theorem dX3_heightOf_22 : decode cX3_heightOf 22 = .ok (.iload_n 3, 1) := by decide +kernel
theorem dX3_heightOf_23 : decode cX3_heightOf 23 = .ok (.aload_n 0, 1) := by decide +kernel
theorem dX3_heightOf_24 : decode cX3_heightOf 24 = .ok (.getfield 22, 3) := by decide +kernel
theorem dX3_heightOf_27 : decode cX3_heightOf 27 = .ok (.imul, 1) := by decide +kernel
theorem dX3_heightOf_28 : decode cX3_heightOf 28 = .ok (.iload_n 2, 1) := by decide +kernel
theorem dX3_heightOf_29 : decode cX3_heightOf 29 = .ok (.idiv, 1) := by decide +kernel
theorem dX3_heightOf_30 : decode cX3_heightOf 30 = .ok (.goto 4, 3) := by decide +kernel
theorem dX3_heightOf_33 : decode cX3_heightOf 33 = .ok (.iload_n 3, 1) := by decide +kernel
theorem dX3_heightOf_34 : decode cX3_heightOf 34 = .ok (.ireturn, 1) := by decide +kernel
theorem dX3_landingOf_0 : decode cX3_landingOf 0 = .ok (.aload_n 0, 1) := by decide +kernel
theorem dX3_landingOf_1 : decode cX3_landingOf 1 = .ok (.getfield 9, 3) := by decide +kernel
theorem dX3_landingOf_4 : decode cX3_landingOf 4 = .ok (.iload_n 1, 1) := by decide +kernel
theorem dX3_landingOf_5 : decode cX3_landingOf 5 = .ok (.iaload, 1) := by decide +kernel
theorem dX3_landingOf_6 : decode cX3_landingOf 6 = .ok (.aload_n 0, 1) := by decide +kernel
theorem dX3_landingOf_7 : decode cX3_landingOf 7 = .ok (.iload_n 1, 1) := by decide +kernel
theorem dX3_landingOf_8 : decode cX3_landingOf 8 = .ok (.iload_n 2, 1) := by decide +kernel
theorem dX3_landingOf_9 : decode cX3_landingOf 9 = .ok (.invokevirtual 65, 3) := by decide +kernel
theorem dX3_landingOf_12 : decode cX3_landingOf 12 = .ok (.aload_n 0, 1) := by decide +kernel
theorem dX3_landingOf_13 : decode cX3_landingOf 13 = .ok (.getfield 25, 3) := by decide +kernel
theorem dX3_landingOf_16 : decode cX3_landingOf 16 = .ok (.imul, 1) := by decide +kernel
theorem dX3_landingOf_17 : decode cX3_landingOf 17 = .ok (.bipush 20, 2) := by decide +kernel
theorem dX3_landingOf_19 : decode cX3_landingOf 19 = .ok (.idiv, 1) := by decide +kernel
theorem dX3_landingOf_20 : decode cX3_landingOf 20 = .ok (.iadd, 1) := by decide +kernel
theorem dX3_landingOf_21 : decode cX3_landingOf 21 = .ok (.ireturn, 1) := by decide +kernel
theorem dX3_isOutside_0 : decode cX3_isOutside 0 = .ok (.iload_n 0, 1) := by decide +kernel
theorem dX3_isOutside_1 : decode cX3_isOutside 1 = .ok (.ifCond .lt 9, 3) := by decide +kernel
theorem dX3_isOutside_4 : decode cX3_isOutside 4 = .ok (.iload_n 0, 1) := by decide +kernel
theorem dX3_isOutside_5 : decode cX3_isOutside 5 = .ok (.bipush 99, 2) := by decide +kernel
theorem dX3_isOutside_7 : decode cX3_isOutside 7 = .ok (.if_icmp .le 7, 3) := by decide +kernel
theorem dX3_isOutside_10 : decode cX3_isOutside 10 = .ok (.iconst 1, 1) := by decide +kernel
theorem dX3_isOutside_11 : decode cX3_isOutside 11 = .ok (.goto 4, 3) := by decide +kernel
theorem dX3_isOutside_14 : decode cX3_isOutside 14 = .ok (.iconst 0, 1) := by decide +kernel
theorem dX3_isOutside_15 : decode cX3_isOutside 15 = .ok (.ireturn, 1) := by decide +kernel
theorem dX3_countWild_0 : decode cX3_countWild 0 = .ok (.aload_n 0, 1) := by decide +kernel
theorem dX3_countWild_1 : decode cX3_countWild 1 = .ok (.invokevirtual 68, 3) := by decide +kernel
theorem dX3_countWild_4 : decode cX3_countWild 4 = .ok (.istore_n 1, 1) := by decide +kernel
theorem dX3_countWild_5 : decode cX3_countWild 5 = .ok (.iconst 0, 1) := by decide +kernel
theorem dX3_countWild_6 : decode cX3_countWild 6 = .ok (.istore_n 2, 1) := by decide +kernel
theorem dX3_countWild_7 : decode cX3_countWild 7 = .ok (.iconst 0, 1) := by decide +kernel
theorem dX3_countWild_8 : decode cX3_countWild 8 = .ok (.istore_n 3, 1) := by decide +kernel
theorem dX3_countWild_9 : decode cX3_countWild 9 = .ok (.iload_n 3, 1) := by decide +kernel
theorem dX3_countWild_10 : decode cX3_countWild 10 = .ok (.aload_n 0, 1) := by decide +kernel
theorem dX3_countWild_11 : decode cX3_countWild 11 = .ok (.getfield 18, 3) := by decide +kernel
theorem dX3_countWild_14 : decode cX3_countWild 14 = .ok (.if_icmp .ge 24, 3) := by decide +kernel
theorem dX3_countWild_17 : decode cX3_countWild 17 = .ok (.aload_n 0, 1) := by decide +kernel
theorem dX3_countWild_18 : decode cX3_countWild 18 = .ok (.iload_n 3, 1) := by decide +kernel
theorem dX3_countWild_19 : decode cX3_countWild 19 = .ok (.iload_n 1, 1) := by decide +kernel
theorem dX3_countWild_20 : decode cX3_countWild 20 = .ok (.invokevirtual 72, 3) := by decide +kernel
theorem dX3_countWild_23 : decode cX3_countWild 23 = .ok (.invokestatic 75, 3) := by decide +kernel
theorem dX3_countWild_26 : decode cX3_countWild 26 = .ok (.ifCond .eq 6, 3) := by decide +kernel
theorem dX3_countWild_29 : decode cX3_countWild 29 = .ok (.iinc 2 1, 3) := by decide +kernel
theorem dX3_countWild_32 : decode cX3_countWild 32 = .ok (.iinc 3 1, 3) := by decide +kernel
theorem dX3_countWild_35 : decode cX3_countWild 35 = .ok (.goto (-26), 3) := by decide +kernel
theorem dX3_countWild_38 : decode cX3_countWild 38 = .ok (.iload_n 2, 1) := by decide +kernel
theorem dX3_countWild_39 : decode cX3_countWild 39 = .ok (.ireturn, 1) := by decide +kernel
theorem dX3_findFirstWild_0 : decode cX3_findFirstWild 0 = .ok (.aload_n 0, 1) := by decide +kernel
theorem dX3_findFirstWild_1 : decode cX3_findFirstWild 1 = .ok (.invokevirtual 68, 3) := by decide +kernel
theorem dX3_findFirstWild_4 : decode cX3_findFirstWild 4 = .ok (.istore_n 1, 1) := by decide +kernel
theorem dX3_findFirstWild_5 : decode cX3_findFirstWild 5 = .ok (.iconst 0, 1) := by decide +kernel
theorem dX3_findFirstWild_6 : decode cX3_findFirstWild 6 = .ok (.istore_n 2, 1) := by decide +kernel
theorem dX3_findFirstWild_7 : decode cX3_findFirstWild 7 = .ok (.iload_n 2, 1) := by decide +kernel
theorem dX3_findFirstWild_8 : decode cX3_findFirstWild 8 = .ok (.aload_n 0, 1) := by decide +kernel
theorem dX3_findFirstWild_9 : decode cX3_findFirstWild 9 = .ok (.getfield 18, 3) := by decide +kernel
theorem dX3_findFirstWild_12 : decode cX3_findFirstWild 12 = .ok (.if_icmp .ge 23, 3) := by decide +kernel
theorem dX3_findFirstWild_15 : decode cX3_findFirstWild 15 = .ok (.aload_n 0, 1) := by decide +kernel
theorem dX3_findFirstWild_16 : decode cX3_findFirstWild 16 = .ok (.iload_n 2, 1) := by decide +kernel
theorem dX3_findFirstWild_17 : decode cX3_findFirstWild 17 = .ok (.iload_n 1, 1) := by decide +kernel
theorem dX3_findFirstWild_18 : decode cX3_findFirstWild 18 = .ok (.invokevirtual 72, 3) := by decide +kernel
theorem dX3_findFirstWild_21 : decode cX3_findFirstWild 21 = .ok (.invokestatic 75, 3) := by decide +kernel
theorem dX3_findFirstWild_24 : decode cX3_findFirstWild 24 = .ok (.ifCond .eq 5, 3) := by decide +kernel
theorem dX3_findFirstWild_27 : decode cX3_findFirstWild 27 = .ok (.iload_n 2, 1) := by decide +kernel
theorem dX3_findFirstWild_28 : decode cX3_findFirstWild 28 = .ok (.ireturn, 1) := by decide +kernel
theorem dX3_findFirstWild_29 : decode cX3_findFirstWild 29 = .ok (.iinc 2 1, 3) := by decide +kernel
theorem dX3_findFirstWild_32 : decode cX3_findFirstWild 32 = .ok (.goto (-25), 3) := by decide +kernel
theorem dX3_findFirstWild_35 : decode cX3_findFirstWild 35 = .ok (.iconst (-1), 1) := by decide +kernel
theorem dX3_findFirstWild_36 : decode cX3_findFirstWild 36 = .ok (.ireturn, 1) := by decide +kernel
theorem dX3_closeWildJets_0 : decode cX3_closeWildJets 0 = .ok (.iconst 0, 1) := by decide +kernel
theorem dX3_closeWildJets_1 : decode cX3_closeWildJets 1 = .ok (.istore_n 1, 1) := by decide +kernel
theorem dX3_closeWildJets_2 : decode cX3_closeWildJets 2 = .ok (.iload_n 1, 1) := by decide +kernel
theorem dX3_closeWildJets_3 : decode cX3_closeWildJets 3 = .ok (.bipush 100, 2) := by decide +kernel
theorem dX3_closeWildJets_5 : decode cX3_closeWildJets 5 = .ok (.if_icmp .ge 31, 3) := by decide +kernel
theorem dX3_closeWildJets_8 : decode cX3_closeWildJets 8 = .ok (.aload_n 0, 1) := by decide +kernel
theorem dX3_closeWildJets_9 : decode cX3_closeWildJets 9 = .ok (.invokevirtual 78, 3) := by decide +kernel
theorem dX3_closeWildJets_12 : decode cX3_closeWildJets 12 = .ok (.istore_n 2, 1) := by decide +kernel
theorem dX3_closeWildJets_13 : decode cX3_closeWildJets 13 = .ok (.iload_n 2, 1) := by decide +kernel
theorem dX3_closeWildJets_14 : decode cX3_closeWildJets 14 = .ok (.iconst (-1), 1) := by decide +kernel
theorem dX3_closeWildJets_15 : decode cX3_closeWildJets 15 = .ok (.if_icmp .ne 5, 3) := by decide +kernel
theorem dX3_closeWildJets_18 : decode cX3_closeWildJets 18 = .ok (.iload_n 1, 1) := by decide +kernel
theorem dX3_closeWildJets_19 : decode cX3_closeWildJets 19 = .ok (.ireturn, 1) := by decide +kernel
theorem dX3_closeWildJets_20 : decode cX3_closeWildJets 20 = .ok (.aload_n 0, 1) := by decide +kernel
theorem dX3_closeWildJets_21 : decode cX3_closeWildJets 21 = .ok (.getfield 15, 3) := by decide +kernel
theorem dX3_closeWildJets_24 : decode cX3_closeWildJets 24 = .ok (.iload_n 2, 1) := by decide +kernel
theorem dX3_closeWildJets_25 : decode cX3_closeWildJets 25 = .ok (.dup2, 1) := by decide +kernel
theorem dX3_closeWildJets_26 : decode cX3_closeWildJets 26 = .ok (.iaload, 1) := by decide +kernel
theorem dX3_closeWildJets_27 : decode cX3_closeWildJets 27 = .ok (.iconst 1, 1) := by decide +kernel
theorem dX3_closeWildJets_28 : decode cX3_closeWildJets 28 = .ok (.isub, 1) := by decide +kernel
theorem dX3_closeWildJets_29 : decode cX3_closeWildJets 29 = .ok (.iastore, 1) := by decide +kernel
theorem dX3_closeWildJets_30 : decode cX3_closeWildJets 30 = .ok (.iinc 1 1, 3) := by decide +kernel
theorem dX3_closeWildJets_33 : decode cX3_closeWildJets 33 = .ok (.goto (-31), 3) := by decide +kernel
theorem dX3_closeWildJets_36 : decode cX3_closeWildJets 36 = .ok (.bipush 100, 2) := by decide +kernel
theorem dX3_closeWildJets_38 : decode cX3_closeWildJets 38 = .ok (.ireturn, 1) := by decide +kernel
theorem dX3_findHighest_0 : decode cX3_findHighest 0 = .ok (.aload_n 0, 1) := by decide +kernel
theorem dX3_findHighest_1 : decode cX3_findHighest 1 = .ok (.invokevirtual 68, 3) := by decide +kernel
theorem dX3_findHighest_4 : decode cX3_findHighest 4 = .ok (.istore_n 1, 1) := by decide +kernel
theorem dX3_findHighest_5 : decode cX3_findHighest 5 = .ok (.iconst 0, 1) := by decide +kernel
theorem dX3_findHighest_6 : decode cX3_findHighest 6 = .ok (.istore_n 2, 1) := by decide +kernel
theorem dX3_findHighest_7 : decode cX3_findHighest 7 = .ok (.iconst 1, 1) := by decide +kernel
theorem dX3_findHighest_8 : decode cX3_findHighest 8 = .ok (.istore_n 3, 1) := by decide +kernel
theorem dX3_findHighest_9 : decode cX3_findHighest 9 = .ok (.iload_n 3, 1) := by decide +kernel
theorem dX3_findHighest_10 : decode cX3_findHighest 10 = .ok (.aload_n 0, 1) := by decide +kernel
theorem dX3_findHighest_11 : decode cX3_findHighest 11 = .ok (.getfield 18, 3) := by decide +kernel
theorem dX3_findHighest_14 : decode cX3_findHighest 14 = .ok (.if_icmp .ge 26, 3) := by decide +kernel
theorem dX3_findHighest_17 : decode cX3_findHighest 17 = .ok (.aload_n 0, 1) := by decide +kernel
theorem dX3_findHighest_18 : decode cX3_findHighest 18 = .ok (.iload_n 3, 1) := by decide +kernel
theorem dX3_findHighest_19 : decode cX3_findHighest 19 = .ok (.iload_n 1, 1) := by decide +kernel
theorem dX3_findHighest_20 : decode cX3_findHighest 20 = .ok (.invokevirtual 65, 3) := by decide +kernel
theorem dX3_findHighest_23 : decode cX3_findHighest 23 = .ok (.aload_n 0, 1) := by decide +kernel
theorem dX3_findHighest_24 : decode cX3_findHighest 24 = .ok (.iload_n 2, 1) := by decide +kernel
theorem dX3_findHighest_25 : decode cX3_findHighest 25 = .ok (.iload_n 1, 1) := by decide +kernel
theorem dX3_findHighest_26 : decode cX3_findHighest 26 = .ok (.invokevirtual 65, 3) := by decide +kernel
theorem dX3_findHighest_29 : decode cX3_findHighest 29 = .ok (.if_icmp .le 5, 3) := by decide +kernel
theorem dX3_findHighest_32 : decode cX3_findHighest 32 = .ok (.iload_n 3, 1) := by decide +kernel
theorem dX3_findHighest_33 : decode cX3_findHighest 33 = .ok (.istore_n 2, 1) := by decide +kernel
theorem dX3_findHighest_34 : decode cX3_findHighest 34 = .ok (.iinc 3 1, 3) := by decide +kernel
theorem dX3_findHighest_37 : decode cX3_findHighest 37 = .ok (.goto (-28), 3) := by decide +kernel
theorem dX3_findHighest_40 : decode cX3_findHighest 40 = .ok (.iload_n 2, 1) := by decide +kernel
theorem dX3_findHighest_41 : decode cX3_findHighest 41 = .ok (.ireturn, 1) := by decide +kernel
theorem dX3_findByRank_0 : decode cX3_findByRank 0 = .ok (.iconst 0, 1) := by decide +kernel
theorem dX3_findByRank_1 : decode cX3_findByRank 1 = .ok (.istore_n 2, 1) := by decide +kernel
theorem dX3_findByRank_2 : decode cX3_findByRank 2 = .ok (.iload_n 2, 1) := by decide +kernel
theorem dX3_findByRank_3 : decode cX3_findByRank 3 = .ok (.aload_n 0, 1) := by decide +kernel
theorem dX3_findByRank_4 : decode cX3_findByRank 4 = .ok (.getfield 18, 3) := by decide +kernel
theorem dX3_findByRank_7 : decode cX3_findByRank 7 = .ok (.if_icmp .ge 20, 3) := by decide +kernel
theorem dX3_findByRank_10 : decode cX3_findByRank 10 = .ok (.aload_n 0, 1) := by decide +kernel
theorem dX3_findByRank_11 : decode cX3_findByRank 11 = .ok (.iload_n 2, 1) := by decide +kernel
theorem dX3_findByRank_12 : decode cX3_findByRank 12 = .ok (.invokevirtual 81, 3) := by decide +kernel
theorem dX3_findByRank_15 : decode cX3_findByRank 15 = .ok (.iload_n 1, 1) := by decide +kernel
theorem dX3_findByRank_16 : decode cX3_findByRank 16 = .ok (.if_icmp .ne 5, 3) := by decide +kernel
theorem dX3_findByRank_19 : decode cX3_findByRank 19 = .ok (.iload_n 2, 1) := by decide +kernel
theorem dX3_findByRank_20 : decode cX3_findByRank 20 = .ok (.ireturn, 1) := by decide +kernel
theorem dX3_findByRank_21 : decode cX3_findByRank 21 = .ok (.iinc 2 1, 3) := by decide +kernel
theorem dX3_findByRank_24 : decode cX3_findByRank 24 = .ok (.goto (-22), 3) := by decide +kernel
theorem dX3_findByRank_27 : decode cX3_findByRank 27 = .ok (.iconst (-1), 1) := by decide +kernel
theorem dX3_findByRank_28 : decode cX3_findByRank 28 = .ok (.ireturn, 1) := by decide +kernel
theorem dX3_rankOf_0 : decode cX3_rankOf 0 = .ok (.iconst 0, 1) := by decide +kernel
theorem dX3_rankOf_1 : decode cX3_rankOf 1 = .ok (.istore_n 2, 1) := by decide +kernel
theorem dX3_rankOf_2 : decode cX3_rankOf 2 = .ok (.iconst 0, 1) := by decide +kernel
theorem dX3_rankOf_3 : decode cX3_rankOf 3 = .ok (.istore_n 3, 1) := by decide +kernel
theorem dX3_rankOf_4 : decode cX3_rankOf 4 = .ok (.iload_n 3, 1) := by decide +kernel
theorem dX3_rankOf_5 : decode cX3_rankOf 5 = .ok (.aload_n 0, 1) := by decide +kernel
theorem dX3_rankOf_6 : decode cX3_rankOf 6 = .ok (.getfield 18, 3) := by decide +kernel
theorem dX3_rankOf_9 : decode cX3_rankOf 9 = .ok (.if_icmp .ge 27, 3) := by decide +kernel
theorem dX3_rankOf_12 : decode cX3_rankOf 12 = .ok (.aload_n 0, 1) := by decide +kernel
theorem dX3_rankOf_13 : decode cX3_rankOf 13 = .ok (.getfield 9, 3) := by decide +kernel
theorem dX3_rankOf_16 : decode cX3_rankOf 16 = .ok (.iload_n 3, 1) := by decide +kernel
theorem dX3_rankOf_17 : decode cX3_rankOf 17 = .ok (.iaload, 1) := by decide +kernel
theorem dX3_rankOf_18 : decode cX3_rankOf 18 = .ok (.aload_n 0, 1) := by decide +kernel
theorem dX3_rankOf_19 : decode cX3_rankOf 19 = .ok (.getfield 9, 3) := by decide +kernel
theorem dX3_rankOf_22 : decode cX3_rankOf 22 = .ok (.iload_n 1, 1) := by decide +kernel
theorem dX3_rankOf_23 : decode cX3_rankOf 23 = .ok (.iaload, 1) := by decide +kernel
theorem dX3_rankOf_24 : decode cX3_rankOf 24 = .ok (.if_icmp .ge 6, 3) := by decide +kernel
theorem dX3_rankOf_27 : decode cX3_rankOf 27 = .ok (.iinc 2 1, 3) := by decide +kernel
theorem dX3_rankOf_30 : decode cX3_rankOf 30 = .ok (.iinc 3 1, 3) := by decide +kernel
theorem dX3_rankOf_33 : decode cX3_rankOf 33 = .ok (.goto (-29), 3) := by decide +kernel
theorem dX3_rankOf_36 : decode cX3_rankOf 36 = .ok (.iload_n 2, 1) := by decide +kernel
theorem dX3_rankOf_37 : decode cX3_rankOf 37 = .ok (.ireturn, 1) := by decide +kernel
theorem dX3_findNearestLanding_0 : decode cX3_findNearestLanding 0 = .ok (.aload_n 0, 1) := by decide +kernel
theorem dX3_findNearestLanding_1 : decode cX3_findNearestLanding 1 = .ok (.invokevirtual 68, 3) := by decide +kernel
theorem dX3_findNearestLanding_4 : decode cX3_findNearestLanding 4 = .ok (.istore_n 2, 1) := by decide +kernel
theorem dX3_findNearestLanding_5 : decode cX3_findNearestLanding 5 = .ok (.iconst 0, 1) := by decide +kernel
theorem dX3_findNearestLanding_6 : decode cX3_findNearestLanding 6 = .ok (.istore_n 3, 1) := by decide +kernel
theorem dX3_findNearestLanding_7 : decode cX3_findNearestLanding 7 = .ok (.iconst 1, 1) := by decide +kernel
theorem dX3_findNearestLanding_8 : decode cX3_findNearestLanding 8 = .ok (.istore 4, 2) := by decide +kernel
theorem dX3_findNearestLanding_10 : decode cX3_findNearestLanding 10 = .ok (.iload 4, 2) := by decide +kernel
theorem dX3_findNearestLanding_12 : decode cX3_findNearestLanding 12 = .ok (.aload_n 0, 1) := by decide +kernel
theorem dX3_findNearestLanding_13 : decode cX3_findNearestLanding 13 = .ok (.getfield 18, 3) := by decide +kernel
theorem dX3_findNearestLanding_16 : decode cX3_findNearestLanding 16 = .ok (.if_icmp .ge 31, 3) := by decide +kernel
theorem dX3_findNearestLanding_19 : decode cX3_findNearestLanding 19 = .ok (.aload_n 0, 1) := by decide +kernel
theorem dX3_findNearestLanding_20 : decode cX3_findNearestLanding 20 = .ok (.iload 4, 2) := by decide +kernel
theorem dX3_findNearestLanding_22 : decode cX3_findNearestLanding 22 = .ok (.iload_n 2, 1) := by decide +kernel
theorem dX3_findNearestLanding_23 : decode cX3_findNearestLanding 23 = .ok (.iload_n 1, 1) := by decide +kernel
theorem dX3_findNearestLanding_24 : decode cX3_findNearestLanding 24 = .ok (.invokevirtual 85, 3) := by decide +kernel
theorem dX3_findNearestLanding_27 : decode cX3_findNearestLanding 27 = .ok (.aload_n 0, 1) := by decide +kernel
theorem dX3_findNearestLanding_28 : decode cX3_findNearestLanding 28 = .ok (.iload_n 3, 1) := by decide +kernel
theorem dX3_findNearestLanding_29 : decode cX3_findNearestLanding 29 = .ok (.iload_n 2, 1) := by decide +kernel
theorem dX3_findNearestLanding_30 : decode cX3_findNearestLanding 30 = .ok (.iload_n 1, 1) := by decide +kernel
theorem dX3_findNearestLanding_31 : decode cX3_findNearestLanding 31 = .ok (.invokevirtual 85, 3) := by decide +kernel
theorem dX3_findNearestLanding_34 : decode cX3_findNearestLanding 34 = .ok (.lcmp, 1) := by decide +kernel
theorem dX3_findNearestLanding_35 : decode cX3_findNearestLanding 35 = .ok (.ifCond .ge 6, 3) := by decide +kernel
theorem dX3_findNearestLanding_38 : decode cX3_findNearestLanding 38 = .ok (.iload 4, 2) := by decide +kernel
theorem dX3_findNearestLanding_40 : decode cX3_findNearestLanding 40 = .ok (.istore_n 3, 1) := by decide +kernel
theorem dX3_findNearestLanding_41 : decode cX3_findNearestLanding 41 = .ok (.iinc 4 1, 3) := by decide +kernel
theorem dX3_findNearestLanding_44 : decode cX3_findNearestLanding 44 = .ok (.goto (-34), 3) := by decide +kernel
theorem dX3_findNearestLanding_47 : decode cX3_findNearestLanding 47 = .ok (.iload_n 3, 1) := by decide +kernel
theorem dX3_findNearestLanding_48 : decode cX3_findNearestLanding 48 = .ok (.ireturn, 1) := by decide +kernel
theorem dX3_distance_0 : decode cX3_distance 0 = .ok (.aload_n 0, 1) := by decide +kernel
theorem dX3_distance_1 : decode cX3_distance 1 = .ok (.iload_n 1, 1) := by decide +kernel
theorem dX3_distance_2 : decode cX3_distance 2 = .ok (.iload_n 2, 1) := by decide +kernel
theorem dX3_distance_3 : decode cX3_distance 3 = .ok (.invokevirtual 72, 3) := by decide +kernel
theorem dX3_distance_6 : decode cX3_distance 6 = .ok (.i2l, 1) := by decide +kernel
theorem dX3_distance_7 : decode cX3_distance 7 = .ok (.iload_n 3, 1) := by decide +kernel
theorem dX3_distance_8 : decode cX3_distance 8 = .ok (.i2l, 1) := by decide +kernel
theorem dX3_distance_9 : decode cX3_distance 9 = .ok (.lsub, 1) := by decide +kernel
theorem dX3_distance_10 : decode cX3_distance 10 = .ok (.invokestatic 89, 3) := by decide +kernel
theorem dX3_distance_13 : decode cX3_distance 13 = .ok (.lreturn, 1) := by decide +kernel
theorem dX3_countCrossingPairs_0 : decode cX3_countCrossingPairs 0 = .ok (.aload_n 0, 1) := by decide +kernel
theorem dX3_countCrossingPairs_1 : decode cX3_countCrossingPairs 1 = .ok (.invokevirtual 68, 3) := by decide +kernel
theorem dX3_countCrossingPairs_4 : decode cX3_countCrossingPairs 4 = .ok (.istore_n 1, 1) := by decide +kernel
theorem dX3_countCrossingPairs_5 : decode cX3_countCrossingPairs 5 = .ok (.iconst 0, 1) := by decide +kernel
theorem dX3_countCrossingPairs_6 : decode cX3_countCrossingPairs 6 = .ok (.istore_n 2, 1) := by decide +kernel
theorem dX3_countCrossingPairs_7 : decode cX3_countCrossingPairs 7 = .ok (.iconst 0, 1) := by decide +kernel
theorem dX3_countCrossingPairs_8 : decode cX3_countCrossingPairs 8 = .ok (.istore_n 3, 1) := by decide +kernel
theorem dX3_countCrossingPairs_9 : decode cX3_countCrossingPairs 9 = .ok (.iload_n 3, 1) := by decide +kernel
theorem dX3_countCrossingPairs_10 : decode cX3_countCrossingPairs 10 = .ok (.aload_n 0, 1) := by decide +kernel
theorem dX3_countCrossingPairs_11 : decode cX3_countCrossingPairs 11 = .ok (.getfield 18, 3) := by decide +kernel
theorem dX3_countCrossingPairs_14 : decode cX3_countCrossingPairs 14 = .ok (.if_icmp .ge 62, 3) := by decide +kernel
theorem dX3_countCrossingPairs_17 : decode cX3_countCrossingPairs 17 = .ok (.iconst 0, 1) := by decide +kernel
theorem dX3_countCrossingPairs_18 : decode cX3_countCrossingPairs 18 = .ok (.istore 4, 2) := by decide +kernel
theorem dX3_countCrossingPairs_20 : decode cX3_countCrossingPairs 20 = .ok (.iload 4, 2) := by decide +kernel
theorem dX3_countCrossingPairs_22 : decode cX3_countCrossingPairs 22 = .ok (.aload_n 0, 1) := by decide +kernel
theorem dX3_countCrossingPairs_23 : decode cX3_countCrossingPairs 23 = .ok (.getfield 18, 3) := by decide +kernel
theorem dX3_countCrossingPairs_26 : decode cX3_countCrossingPairs 26 = .ok (.if_icmp .ge 44, 3) := by decide +kernel
theorem dX3_countCrossingPairs_29 : decode cX3_countCrossingPairs 29 = .ok (.aload_n 0, 1) := by decide +kernel
theorem dX3_countCrossingPairs_30 : decode cX3_countCrossingPairs 30 = .ok (.getfield 9, 3) := by decide +kernel
theorem dX3_countCrossingPairs_33 : decode cX3_countCrossingPairs 33 = .ok (.iload_n 3, 1) := by decide +kernel
theorem dX3_countCrossingPairs_34 : decode cX3_countCrossingPairs 34 = .ok (.iaload, 1) := by decide +kernel
theorem dX3_countCrossingPairs_35 : decode cX3_countCrossingPairs 35 = .ok (.aload_n 0, 1) := by decide +kernel
theorem dX3_countCrossingPairs_36 : decode cX3_countCrossingPairs 36 = .ok (.getfield 9, 3) := by decide +kernel
theorem dX3_countCrossingPairs_39 : decode cX3_countCrossingPairs 39 = .ok (.iload 4, 2) := by decide +kernel
theorem dX3_countCrossingPairs_41 : decode cX3_countCrossingPairs 41 = .ok (.iaload, 1) := by decide +kernel
theorem dX3_countCrossingPairs_42 : decode cX3_countCrossingPairs 42 = .ok (.if_icmp .ge 22, 3) := by decide +kernel
theorem dX3_countCrossingPairs_45 : decode cX3_countCrossingPairs 45 = .ok (.aload_n 0, 1) := by decide +kernel
theorem dX3_countCrossingPairs_46 : decode cX3_countCrossingPairs 46 = .ok (.iload_n 3, 1) := by decide +kernel
theorem dX3_countCrossingPairs_47 : decode cX3_countCrossingPairs 47 = .ok (.iload_n 1, 1) := by decide +kernel
theorem dX3_countCrossingPairs_48 : decode cX3_countCrossingPairs 48 = .ok (.invokevirtual 72, 3) := by decide +kernel
theorem dX3_countCrossingPairs_51 : decode cX3_countCrossingPairs 51 = .ok (.aload_n 0, 1) := by decide +kernel
theorem dX3_countCrossingPairs_52 : decode cX3_countCrossingPairs 52 = .ok (.iload 4, 2) := by decide +kernel
theorem dX3_countCrossingPairs_54 : decode cX3_countCrossingPairs 54 = .ok (.iload_n 1, 1) := by decide +kernel
theorem dX3_countCrossingPairs_55 : decode cX3_countCrossingPairs 55 = .ok (.invokevirtual 72, 3) := by decide +kernel
theorem dX3_countCrossingPairs_58 : decode cX3_countCrossingPairs 58 = .ok (.if_icmp .le 6, 3) := by decide +kernel
theorem dX3_countCrossingPairs_61 : decode cX3_countCrossingPairs 61 = .ok (.iinc 2 1, 3) := by decide +kernel
theorem dX3_countCrossingPairs_64 : decode cX3_countCrossingPairs 64 = .ok (.iinc 4 1, 3) := by decide +kernel
theorem dX3_countCrossingPairs_67 : decode cX3_countCrossingPairs 67 = .ok (.goto (-47), 3) := by decide +kernel
theorem dX3_countCrossingPairs_70 : decode cX3_countCrossingPairs 70 = .ok (.iinc 3 1, 3) := by decide +kernel
theorem dX3_countCrossingPairs_73 : decode cX3_countCrossingPairs 73 = .ok (.goto (-64), 3) := by decide +kernel
theorem dX3_countCrossingPairs_76 : decode cX3_countCrossingPairs 76 = .ok (.iload_n 2, 1) := by decide +kernel
theorem dX3_countCrossingPairs_77 : decode cX3_countCrossingPairs 77 = .ok (.ireturn, 1) := by decide +kernel
