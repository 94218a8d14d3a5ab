theorem dL_isKept_0 : decode cL_isKept 0 = .ok (.aload_n 0, 1) := by decide +kernel
theorem dL_isKept_1 : decode cL_isKept 1 = .ok (.invokevirtual 381, 3) := by decide +kernel
theorem dL_isKept_4 : decode cL_isKept 4 = .ok (.istore_n 3, 1) := by decide +kernel
theorem dL_isKept_5 : decode cL_isKept 5 = .ok (.bipush 8, 2) := by decide +kernel
theorem dL_isKept_7 : decode cL_isKept 7 = .ok (.iload_n 2, 1) := by decide +kernel
theorem dL_isKept_8 : decode cL_isKept 8 = .ok (.invokestatic 339, 3) := by decide +kernel
theorem dL_isKept_11 : decode cL_isKept 11 = .ok (.istore 4, 2) := by decide +kernel
theorem dL_isKept_13 : decode cL_isKept 13 = .ok (.aload_n 0, 1) := by decide +kernel
theorem dL_isKept_14 : decode cL_isKept 14 = .ok (.invokevirtual 185, 3) := by decide +kernel
theorem dL_isKept_17 : decode cL_isKept 17 = .ok (.iload 4, 2) := by decide +kernel
theorem dL_isKept_19 : decode cL_isKept 19 = .ok (.if_icmp .eq 5, 3) := by decide +kernel
theorem dL_isKept_22 : decode cL_isKept 22 = .ok (.iconst 0, 1) := by decide +kernel
theorem dL_isKept_23 : decode cL_isKept 23 = .ok (.ireturn, 1) := by decide +kernel
theorem dL_isKept_24 : decode cL_isKept 24 = .ok (.iload_n 2, 1) := by decide +kernel
theorem dL_isKept_25 : decode cL_isKept 25 = .ok (.iconst 1, 1) := by decide +kernel
theorem dL_isKept_26 : decode cL_isKept 26 = .ok (.isub, 1) := by decide +kernel
theorem dL_isKept_27 : decode cL_isKept 27 = .ok (.istore 5, 2) := by decide +kernel
theorem dL_isKept_29 : decode cL_isKept 29 = .ok (.iload 4, 2) := by decide +kernel
theorem dL_isKept_31 : decode cL_isKept 31 = .ok (.ifCond .le 35, 3) := by decide +kernel
theorem dL_isKept_34 : decode cL_isKept 34 = .ok (.iinc 4 (-1), 3) := by decide +kernel
theorem dL_isKept_37 : decode cL_isKept 37 = .ok (.aload_n 0, 1) := by decide +kernel
theorem dL_isKept_38 : decode cL_isKept 38 = .ok (.invokestatic 384, 3) := by decide +kernel
theorem dL_isKept_41 : decode cL_isKept 41 = .ok (.iload 4, 2) := by decide +kernel
theorem dL_isKept_43 : decode cL_isKept 43 = .ok (.if_icmp .ne 15, 3) := by decide +kernel
theorem dL_isKept_46 : decode cL_isKept 46 = .ok (.aload_n 0, 1) := by decide +kernel
theorem dL_isKept_47 : decode cL_isKept 47 = .ok (.invokestatic 181, 3) := by decide +kernel
theorem dL_isKept_50 : decode cL_isKept 50 = .ok (.aload_n 1, 1) := by decide +kernel
theorem dL_isKept_51 : decode cL_isKept 51 = .ok (.iload 5, 2) := by decide +kernel
theorem dL_isKept_53 : decode cL_isKept 53 = .ok (.laload, 1) := by decide +kernel
theorem dL_isKept_54 : decode cL_isKept 54 = .ok (.lcmp, 1) := by decide +kernel
theorem dL_isKept_55 : decode cL_isKept 55 = .ok (.ifCond .eq 5, 3) := by decide +kernel
theorem dL_isKept_58 : decode cL_isKept 58 = .ok (.iconst 0, 1) := by decide +kernel
theorem dL_isKept_59 : decode cL_isKept 59 = .ok (.ireturn, 1) := by decide +kernel
theorem dL_isKept_60 : decode cL_isKept 60 = .ok (.iinc 5 (-1), 3) := by decide +kernel
theorem dL_isKept_63 : decode cL_isKept 63 = .ok (.goto (-34), 3) := by decide +kernel
theorem dL_isKept_66 : decode cL_isKept 66 = .ok (.aload_n 0, 1) := by decide +kernel
theorem dL_isKept_67 : decode cL_isKept 67 = .ok (.invokestatic 384, 3) := by decide +kernel
theorem dL_isKept_70 : decode cL_isKept 70 = .ok (.sipush (-7900), 3) := by decide +kernel
theorem dL_isKept_73 : decode cL_isKept 73 = .ok (.if_icmp .ne 36, 3) := by decide +kernel
theorem dL_isKept_76 : decode cL_isKept 76 = .ok (.aload_n 0, 1) := by decide +kernel
theorem dL_isKept_77 : decode cL_isKept 77 = .ok (.invokestatic 386, 3) := by decide +kernel
theorem dL_isKept_80 : decode cL_isKept 80 = .ok (.iload_n 3, 1) := by decide +kernel
theorem dL_isKept_81 : decode cL_isKept 81 = .ok (.if_icmp .ne 28, 3) := by decide +kernel
theorem dL_isKept_84 : decode cL_isKept 84 = .ok (.aload_n 0, 1) := by decide +kernel
theorem dL_isKept_85 : decode cL_isKept 85 = .ok (.invokestatic 181, 3) := by decide +kernel
theorem dL_isKept_88 : decode cL_isKept 88 = .ok (.aload_n 1, 1) := by decide +kernel
theorem dL_isKept_89 : decode cL_isKept 89 = .ok (.iload_n 2, 1) := by decide +kernel
theorem dL_isKept_90 : decode cL_isKept 90 = .ok (.laload, 1) := by decide +kernel
theorem dL_isKept_91 : decode cL_isKept 91 = .ok (.lcmp, 1) := by decide +kernel
theorem dL_isKept_92 : decode cL_isKept 92 = .ok (.ifCond .ne 17, 3) := by decide +kernel
theorem dL_isKept_95 : decode cL_isKept 95 = .ok (.aload_n 0, 1) := by decide +kernel
theorem dL_isKept_96 : decode cL_isKept 96 = .ok (.invokestatic 384, 3) := by decide +kernel
theorem dL_isKept_99 : decode cL_isKept 99 = .ok (.sipush (-7900), 3) := by decide +kernel
theorem dL_isKept_102 : decode cL_isKept 102 = .ok (.if_icmp .ne 7, 3) := by decide +kernel
theorem dL_isKept_105 : decode cL_isKept 105 = .ok (.iconst 1, 1) := by decide +kernel
theorem dL_isKept_106 : decode cL_isKept 106 = .ok (.goto 4, 3) := by decide +kernel
theorem dL_isKept_109 : decode cL_isKept 109 = .ok (.iconst 0, 1) := by decide +kernel
theorem dL_isKept_110 : decode cL_isKept 110 = .ok (.ireturn, 1) := by decide +kernel
