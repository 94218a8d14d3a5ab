theorem dX4_init_0 : decode cX4_init 0 = .ok (.aload_n 0, 1) := by decide +kernel
theorem dX4_init_1 : decode cX4_init 1 = .ok (.invokespecial 3, 3) := by decide +kernel
theorem dX4_init_4 : decode cX4_init 4 = .ok (.aload_n 0, 1) := by decide +kernel
theorem dX4_init_5 : decode cX4_init 5 = .ok (.bipush 10, 2) := by decide +kernel
theorem dX4_init_7 : decode cX4_init 7 = .ok (.newarray .int, 2) := by decide +kernel
theorem dX4_init_9 : decode cX4_init 9 = .ok (.putfield 9, 3) := by decide +kernel
theorem dX4_init_12 : decode cX4_init 12 = .ok (.aload_n 0, 1) := by decide +kernel
theorem dX4_init_13 : decode cX4_init 13 = .ok (.bipush 10, 2) := by decide +kernel
theorem dX4_init_15 : decode cX4_init 15 = .ok (.newarray .int, 2) := by decide +kernel
theorem dX4_init_17 : decode cX4_init 17 = .ok (.putfield 15, 3) := by decide +kernel
theorem dX4_init_20 : decode cX4_init 20 = .ok (.return_, 1) := by decide +kernel
theorem dX4_countInversions_0 : decode cX4_countInversions 0 = .ok (.aload_n 0, 1) := by decide +kernel
theorem dX4_countInversions_1 : decode cX4_countInversions 1 = .ok (.aload_n 1, 1) := by decide +kernel
theorem dX4_countInversions_2 : decode cX4_countInversions 2 = .ok (.invokevirtual 18, 3) := by decide +kernel
theorem dX4_countInversions_5 : decode cX4_countInversions 5 = .ok (.aload_n 1, 1) := by decide +kernel
theorem dX4_countInversions_6 : decode cX4_countInversions 6 = .ok (.getfield 22, 3) := by decide +kernel
theorem dX4_countInversions_9 : decode cX4_countInversions 9 = .ok (.istore_n 2, 1) := by decide +kernel
theorem dX4_countInversions_10 : decode cX4_countInversions 10 = .ok (.iconst 0, 1) := by decide +kernel
theorem dX4_countInversions_11 : decode cX4_countInversions 11 = .ok (.istore_n 3, 1) := by decide +kernel
theorem dX4_countInversions_12 : decode cX4_countInversions 12 = .ok (.iconst 1, 1) := by decide +kernel
theorem dX4_countInversions_13 : decode cX4_countInversions 13 = .ok (.istore 4, 2) := by decide +kernel
theorem dX4_countInversions_15 : decode cX4_countInversions 15 = .ok (.iload 4, 2) := by decide +kernel
theorem dX4_countInversions_17 : decode cX4_countInversions 17 = .ok (.iload_n 2, 1) := by decide +kernel
theorem dX4_countInversions_18 : decode cX4_countInversions 18 = .ok (.if_icmp .ge 62, 3) := by decide +kernel
theorem dX4_countInversions_21 : decode cX4_countInversions 21 = .ok (.iconst 0, 1) := by decide +kernel
theorem dX4_countInversions_22 : decode cX4_countInversions 22 = .ok (.istore 5, 2) := by decide +kernel
theorem dX4_countInversions_24 : decode cX4_countInversions 24 = .ok (.iload 5, 2) := by decide +kernel
theorem dX4_countInversions_26 : decode cX4_countInversions 26 = .ok (.iload_n 2, 1) := by decide +kernel
theorem dX4_countInversions_27 : decode cX4_countInversions 27 = .ok (.if_icmp .ge 44, 3) := by decide +kernel
theorem dX4_countInversions_30 : decode cX4_countInversions 30 = .ok (.iload_n 3, 1) := by decide +kernel
theorem dX4_countInversions_31 : decode cX4_countInversions 31 = .ok (.aload_n 0, 1) := by decide +kernel
theorem dX4_countInversions_32 : decode cX4_countInversions 32 = .ok (.iload 5, 2) := by decide +kernel
theorem dX4_countInversions_34 : decode cX4_countInversions 34 = .ok (.iload 5, 2) := by decide +kernel
theorem dX4_countInversions_36 : decode cX4_countInversions 36 = .ok (.iload 4, 2) := by decide +kernel
theorem dX4_countInversions_38 : decode cX4_countInversions 38 = .ok (.iadd, 1) := by decide +kernel
theorem dX4_countInversions_39 : decode cX4_countInversions 39 = .ok (.iload_n 2, 1) := by decide +kernel
theorem dX4_countInversions_40 : decode cX4_countInversions 40 = .ok (.invokestatic 28, 3) := by decide +kernel
theorem dX4_countInversions_43 : decode cX4_countInversions 43 = .ok (.iload 5, 2) := by decide +kernel
theorem dX4_countInversions_45 : decode cX4_countInversions 45 = .ok (.iconst 2, 1) := by decide +kernel
theorem dX4_countInversions_46 : decode cX4_countInversions 46 = .ok (.iload 4, 2) := by decide +kernel
theorem dX4_countInversions_48 : decode cX4_countInversions 48 = .ok (.imul, 1) := by decide +kernel
theorem dX4_countInversions_49 : decode cX4_countInversions 49 = .ok (.iadd, 1) := by decide +kernel
theorem dX4_countInversions_50 : decode cX4_countInversions 50 = .ok (.iload_n 2, 1) := by decide +kernel
theorem dX4_countInversions_51 : decode cX4_countInversions 51 = .ok (.invokestatic 28, 3) := by decide +kernel
theorem dX4_countInversions_54 : decode cX4_countInversions 54 = .ok (.invokevirtual 34, 3) := by decide +kernel
theorem dX4_countInversions_57 : decode cX4_countInversions 57 = .ok (.iadd, 1) := by decide +kernel
theorem dX4_countInversions_58 : decode cX4_countInversions 58 = .ok (.istore_n 3, 1) := by decide +kernel
theorem dX4_countInversions_59 : decode cX4_countInversions 59 = .ok (.iload 5, 2) := by decide +kernel
theorem dX4_countInversions_61 : decode cX4_countInversions 61 = .ok (.iconst 2, 1) := by decide +kernel
theorem dX4_countInversions_62 : decode cX4_countInversions 62 = .ok (.iload 4, 2) := by decide +kernel
theorem dX4_countInversions_64 : decode cX4_countInversions 64 = .ok (.imul, 1) := by decide +kernel
theorem dX4_countInversions_65 : decode cX4_countInversions 65 = .ok (.iadd, 1) := by decide +kernel
theorem dX4_countInversions_66 : decode cX4_countInversions 66 = .ok (.istore 5, 2) := by decide +kernel
theorem dX4_countInversions_68 : decode cX4_countInversions 68 = .ok (.goto (-44), 3) := by decide +kernel
theorem dX4_countInversions_71 : decode cX4_countInversions 71 = .ok (.iload 4, 2) := by decide +kernel
theorem dX4_countInversions_73 : decode cX4_countInversions 73 = .ok (.iconst 2, 1) := by decide +kernel
theorem dX4_countInversions_74 : decode cX4_countInversions 74 = .ok (.imul, 1) := by decide +kernel
theorem dX4_countInversions_75 : decode cX4_countInversions 75 = .ok (.istore 4, 2) := by decide +kernel
theorem dX4_countInversions_77 : decode cX4_countInversions 77 = .ok (.goto (-62), 3) := by decide +kernel
theorem dX4_countInversions_80 : decode cX4_countInversions 80 = .ok (.iload_n 3, 1) := by decide +kernel
theorem dX4_countInversions_81 : decode cX4_countInversions 81 = .ok (.ireturn, 1) := by decide +kernel
theorem dX4_takeLandings_0 : decode cX4_takeLandings 0 = .ok (.aload_n 1, 1) := by decide +kernel
theorem dX4_takeLandings_1 : decode cX4_takeLandings 1 = .ok (.invokevirtual 38, 3) := by decide +kernel
theorem dX4_takeLandings_4 : decode cX4_takeLandings 4 = .ok (.istore_n 2, 1) := by decide +kernel
theorem dX4_takeLandings_5 : decode cX4_takeLandings 5 = .ok (.iconst 0, 1) := by decide +kernel
theorem dX4_takeLandings_6 : decode cX4_takeLandings 6 = .ok (.istore_n 3, 1) := by decide +kernel
theorem dX4_takeLandings_7 : decode cX4_takeLandings 7 = .ok (.iload_n 3, 1) := by decide +kernel
theorem dX4_takeLandings_8 : decode cX4_takeLandings 8 = .ok (.aload_n 1, 1) := by decide +kernel
theorem dX4_takeLandings_9 : decode cX4_takeLandings 9 = .ok (.getfield 22, 3) := by decide +kernel
theorem dX4_takeLandings_12 : decode cX4_takeLandings 12 = .ok (.if_icmp .ge 25, 3) := by decide +kernel
theorem dX4_takeLandings_15 : decode cX4_takeLandings 15 = .ok (.aload_n 0, 1) := by decide +kernel
theorem dX4_takeLandings_16 : decode cX4_takeLandings 16 = .ok (.getfield 9, 3) := by decide +kernel
theorem dX4_takeLandings_19 : decode cX4_takeLandings 19 = .ok (.aload_n 1, 1) := by decide +kernel
theorem dX4_takeLandings_20 : decode cX4_takeLandings 20 = .ok (.iload_n 3, 1) := by decide +kernel
theorem dX4_takeLandings_21 : decode cX4_takeLandings 21 = .ok (.invokevirtual 42, 3) := by decide +kernel
theorem dX4_takeLandings_24 : decode cX4_takeLandings 24 = .ok (.aload_n 1, 1) := by decide +kernel
theorem dX4_takeLandings_25 : decode cX4_takeLandings 25 = .ok (.iload_n 3, 1) := by decide +kernel
theorem dX4_takeLandings_26 : decode cX4_takeLandings 26 = .ok (.iload_n 2, 1) := by decide +kernel
theorem dX4_takeLandings_27 : decode cX4_takeLandings 27 = .ok (.invokevirtual 46, 3) := by decide +kernel
theorem dX4_takeLandings_30 : decode cX4_takeLandings 30 = .ok (.iastore, 1) := by decide +kernel
theorem dX4_takeLandings_31 : decode cX4_takeLandings 31 = .ok (.iinc 3 1, 3) := by decide +kernel
theorem dX4_takeLandings_34 : decode cX4_takeLandings 34 = .ok (.goto (-27), 3) := by decide +kernel
theorem dX4_takeLandings_37 : decode cX4_takeLandings 37 = .ok (.return_, 1) := by decide +kernel
theorem dX4_merge_0 : decode cX4_merge 0 = .ok (.iconst 0, 1) := by decide +kernel
theorem dX4_merge_1 : decode cX4_merge 1 = .ok (.istore 4, 2) := by decide +kernel
theorem dX4_merge_3 : decode cX4_merge 3 = .ok (.iload_n 1, 1) := by decide +kernel
theorem dX4_merge_4 : decode cX4_merge 4 = .ok (.istore 5, 2) := by decide +kernel
theorem dX4_merge_6 : decode cX4_merge 6 = .ok (.iload_n 2, 1) := by decide +kernel
theorem dX4_merge_7 : decode cX4_merge 7 = .ok (.istore 6, 2) := by decide +kernel
theorem dX4_merge_9 : decode cX4_merge 9 = .ok (.iload_n 1, 1) := by decide +kernel
theorem dX4_merge_10 : decode cX4_merge 10 = .ok (.istore 7, 2) := by decide +kernel
theorem dX4_merge_12 : decode cX4_merge 12 = .ok (.iload 7, 2) := by decide +kernel
theorem dX4_merge_14 : decode cX4_merge 14 = .ok (.iload_n 3, 1) := by decide +kernel
theorem dX4_merge_15 : decode cX4_merge 15 = .ok (.if_icmp .ge 84, 3) := by decide +kernel
theorem dX4_merge_18 : decode cX4_merge 18 = .ok (.iload 6, 2) := by decide +kernel
theorem dX4_merge_20 : decode cX4_merge 20 = .ok (.iload_n 3, 1) := by decide +kernel
theorem dX4_merge_21 : decode cX4_merge 21 = .ok (.if_icmp .ge 26, 3) := by decide +kernel
theorem dX4_merge_24 : decode cX4_merge 24 = .ok (.iload 5, 2) := by decide +kernel
theorem dX4_merge_26 : decode cX4_merge 26 = .ok (.iload_n 2, 1) := by decide +kernel
theorem dX4_merge_27 : decode cX4_merge 27 = .ok (.if_icmp .ge 40, 3) := by decide +kernel
theorem dX4_merge_30 : decode cX4_merge 30 = .ok (.aload_n 0, 1) := by decide +kernel
theorem dX4_merge_31 : decode cX4_merge 31 = .ok (.getfield 9, 3) := by decide +kernel
theorem dX4_merge_34 : decode cX4_merge 34 = .ok (.iload 5, 2) := by decide +kernel
theorem dX4_merge_36 : decode cX4_merge 36 = .ok (.iaload, 1) := by decide +kernel
theorem dX4_merge_37 : decode cX4_merge 37 = .ok (.aload_n 0, 1) := by decide +kernel
theorem dX4_merge_38 : decode cX4_merge 38 = .ok (.getfield 9, 3) := by decide +kernel
theorem dX4_merge_41 : decode cX4_merge 41 = .ok (.iload 6, 2) := by decide +kernel
theorem dX4_merge_43 : decode cX4_merge 43 = .ok (.iaload, 1) := by decide +kernel
theorem dX4_merge_44 : decode cX4_merge 44 = .ok (.if_icmp .gt 23, 3) := by decide +kernel
theorem dX4_merge_47 : decode cX4_merge 47 = .ok (.aload_n 0, 1) := by decide +kernel
theorem dX4_merge_48 : decode cX4_merge 48 = .ok (.getfield 15, 3) := by decide +kernel
theorem dX4_merge_51 : decode cX4_merge 51 = .ok (.iload 7, 2) := by decide +kernel
theorem dX4_merge_53 : decode cX4_merge 53 = .ok (.aload_n 0, 1) := by decide +kernel
theorem dX4_merge_54 : decode cX4_merge 54 = .ok (.getfield 9, 3) := by decide +kernel
theorem dX4_merge_57 : decode cX4_merge 57 = .ok (.iload 5, 2) := by decide +kernel
theorem dX4_merge_59 : decode cX4_merge 59 = .ok (.iaload, 1) := by decide +kernel
theorem dX4_merge_60 : decode cX4_merge 60 = .ok (.iastore, 1) := by decide +kernel
theorem dX4_merge_61 : decode cX4_merge 61 = .ok (.iinc 5 1, 3) := by decide +kernel
theorem dX4_merge_64 : decode cX4_merge 64 = .ok (.goto 29, 3) := by decide +kernel
theorem dX4_merge_67 : decode cX4_merge 67 = .ok (.aload_n 0, 1) := by decide +kernel
theorem dX4_merge_68 : decode cX4_merge 68 = .ok (.getfield 15, 3) := by decide +kernel
theorem dX4_merge_71 : decode cX4_merge 71 = .ok (.iload 7, 2) := by decide +kernel
theorem dX4_merge_73 : decode cX4_merge 73 = .ok (.aload_n 0, 1) := by decide +kernel
theorem dX4_merge_74 : decode cX4_merge 74 = .ok (.getfield 9, 3) := by decide +kernel
theorem dX4_merge_77 : decode cX4_merge 77 = .ok (.iload 6, 2) := by decide +kernel
theorem dX4_merge_79 : decode cX4_merge 79 = .ok (.iaload, 1) := by decide +kernel
theorem dX4_merge_80 : decode cX4_merge 80 = .ok (.iastore, 1) := by decide +kernel
theorem dX4_merge_81 : decode cX4_merge 81 = .ok (.iinc 6 1, 3) := by decide +kernel
theorem dX4_merge_84 : decode cX4_merge 84 = .ok (.iload 4, 2) := by decide +kernel
theorem dX4_merge_86 : decode cX4_merge 86 = .ok (.iload_n 2, 1) := by decide +kernel
theorem dX4_merge_87 : decode cX4_merge 87 = .ok (.iload 5, 2) := by decide +kernel
theorem dX4_merge_89 : decode cX4_merge 89 = .ok (.isub, 1) := by decide +kernel
theorem dX4_merge_90 : decode cX4_merge 90 = .ok (.iadd, 1) := by decide +kernel
theorem dX4_merge_91 : decode cX4_merge 91 = .ok (.istore 4, 2) := by decide +kernel
theorem dX4_merge_93 : decode cX4_merge 93 = .ok (.iinc 7 1, 3) := by decide +kernel
theorem dX4_merge_96 : decode cX4_merge 96 = .ok (.goto (-84), 3) := by decide +kernel
theorem dX4_merge_99 : decode cX4_merge 99 = .ok (.aload_n 0, 1) := by decide +kernel
theorem dX4_merge_100 : decode cX4_merge 100 = .ok (.getfield 15, 3) := by decide +kernel
theorem dX4_merge_103 : decode cX4_merge 103 = .ok (.iload_n 1, 1) := by decide +kernel
theorem dX4_merge_104 : decode cX4_merge 104 = .ok (.aload_n 0, 1) := by decide +kernel
theorem dX4_merge_105 : decode cX4_merge 105 = .ok (.getfield 9, 3) := by decide +kernel
theorem dX4_merge_108 : decode cX4_merge 108 = .ok (.iload_n 1, 1) := by decide +kernel
theorem dX4_merge_109 : decode cX4_merge 109 = .ok (.iload_n 3, 1) := by decide +kernel
theorem dX4_merge_110 : decode cX4_merge 110 = .ok (.iload_n 1, 1) := by decide +kernel
theorem dX4_merge_111 : decode cX4_merge 111 = .ok (.isub, 1) := by decide +kernel
theorem dX4_merge_112 : decode cX4_merge 112 = .ok (.invokestatic 49, 3) := by decide +kernel
theorem dX4_merge_115 : decode cX4_merge 115 = .ok (.iload 4, 2) := by decide +kernel
theorem dX4_merge_117 : decode cX4_merge 117 = .ok (.ireturn, 1) := by decide +kernel
