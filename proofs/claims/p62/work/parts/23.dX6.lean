theorem dX6_init_0 : decode cX6_init 0 = .ok (.aload_n 0, 1) := by decide +kernel
theorem dX6_init_1 : decode cX6_init 1 = .ok (.invokespecial 3, 3) := by decide +kernel
theorem dX6_init_4 : decode cX6_init 4 = .ok (.aload_n 0, 1) := by decide +kernel
theorem dX6_init_5 : decode cX6_init 5 = .ok (.bipush 60, 2) := by decide +kernel
theorem dX6_init_7 : decode cX6_init 7 = .ok (.newarray .char, 2) := by decide +kernel
theorem dX6_init_9 : decode cX6_init 9 = .ok (.putfield 9, 3) := by decide +kernel
theorem dX6_init_12 : decode cX6_init 12 = .ok (.aload_n 0, 1) := by decide +kernel
theorem dX6_init_13 : decode cX6_init 13 = .ok (.iconst 0, 1) := by decide +kernel
theorem dX6_init_14 : decode cX6_init 14 = .ok (.putfield 15, 3) := by decide +kernel
theorem dX6_init_17 : decode cX6_init 17 = .ok (.aload_n 0, 1) := by decide +kernel
theorem dX6_init_18 : decode cX6_init 18 = .ok (.iconst 0, 1) := by decide +kernel
theorem dX6_init_19 : decode cX6_init 19 = .ok (.putfield 19, 3) := by decide +kernel
theorem dX6_init_22 : decode cX6_init 22 = .ok (.aload_n 0, 1) := by decide +kernel
theorem dX6_init_23 : decode cX6_init 23 = .ok (.iconst 0, 1) := by decide +kernel
theorem dX6_init_24 : decode cX6_init 24 = .ok (.putfield 22, 3) := by decide +kernel
theorem dX6_init_27 : decode cX6_init 27 = .ok (.aload_n 0, 1) := by decide +kernel
theorem dX6_init_28 : decode cX6_init 28 = .ok (.getstatic 25, 3) := by decide +kernel
theorem dX6_init_31 : decode cX6_init 31 = .ok (.putfield 31, 3) := by decide +kernel
theorem dX6_init_34 : decode cX6_init 34 = .ok (.aload_n 0, 1) := by decide +kernel
theorem dX6_init_35 : decode cX6_init 35 = .ok (.iconst 4, 1) := by decide +kernel
theorem dX6_init_36 : decode cX6_init 36 = .ok (.newarray .int, 2) := by decide +kernel
theorem dX6_init_38 : decode cX6_init 38 = .ok (.putfield 34, 3) := by decide +kernel
theorem dX6_init_41 : decode cX6_init 41 = .ok (.aload_n 0, 1) := by decide +kernel
theorem dX6_init_42 : decode cX6_init 42 = .ok (.iconst 0, 1) := by decide +kernel
theorem dX6_init_43 : decode cX6_init 43 = .ok (.putfield 38, 3) := by decide +kernel
theorem dX6_init_46 : decode cX6_init 46 = .ok (.return_, 1) := by decide +kernel
theorem dX6_isFull_0 : decode cX6_isFull 0 = .ok (.aload_n 0, 1) := by decide +kernel
theorem dX6_isFull_1 : decode cX6_isFull 1 = .ok (.getfield 15, 3) := by decide +kernel
theorem dX6_isFull_4 : decode cX6_isFull 4 = .ok (.bipush 60, 2) := by decide +kernel
theorem dX6_isFull_6 : decode cX6_isFull 6 = .ok (.if_icmp .lt 7, 3) := by decide +kernel
theorem dX6_isFull_9 : decode cX6_isFull 9 = .ok (.iconst 1, 1) := by decide +kernel
theorem dX6_isFull_10 : decode cX6_isFull 10 = .ok (.goto 4, 3) := by decide +kernel
theorem dX6_isFull_13 : decode cX6_isFull 13 = .ok (.iconst 0, 1) := by decide +kernel
theorem dX6_isFull_14 : decode cX6_isFull 14 = .ok (.ireturn, 1) := by decide +kernel
theorem dX6_append_0 : decode cX6_append 0 = .ok (.aload_n 0, 1) := by decide +kernel
theorem dX6_append_1 : decode cX6_append 1 = .ok (.getfield 9, 3) := by decide +kernel
theorem dX6_append_4 : decode cX6_append 4 = .ok (.aload_n 0, 1) := by decide +kernel
theorem dX6_append_5 : decode cX6_append 5 = .ok (.getfield 15, 3) := by decide +kernel
theorem dX6_append_8 : decode cX6_append 8 = .ok (.iload_n 1, 1) := by decide +kernel
theorem dX6_append_9 : decode cX6_append 9 = .ok (.castore, 1) := by decide +kernel
theorem dX6_append_10 : decode cX6_append 10 = .ok (.aload_n 0, 1) := by decide +kernel
theorem dX6_append_11 : decode cX6_append 11 = .ok (.dup, 1) := by decide +kernel
theorem dX6_append_12 : decode cX6_append 12 = .ok (.getfield 15, 3) := by decide +kernel
theorem dX6_append_15 : decode cX6_append 15 = .ok (.iconst 1, 1) := by decide +kernel
theorem dX6_append_16 : decode cX6_append 16 = .ok (.iadd, 1) := by decide +kernel
theorem dX6_append_17 : decode cX6_append 17 = .ok (.putfield 15, 3) := by decide +kernel
theorem dX6_append_20 : decode cX6_append 20 = .ok (.aload_n 0, 1) := by decide +kernel
theorem dX6_append_21 : decode cX6_append 21 = .ok (.getfield 15, 3) := by decide +kernel
theorem dX6_append_24 : decode cX6_append 24 = .ok (.ireturn, 1) := by decide +kernel
theorem dX6_findError_0 : decode cX6_findError 0 = .ok (.aload_n 0, 1) := by decide +kernel
theorem dX6_findError_1 : decode cX6_findError 1 = .ok (.iconst 0, 1) := by decide +kernel
theorem dX6_findError_2 : decode cX6_findError 2 = .ok (.putfield 19, 3) := by decide +kernel
theorem dX6_findError_5 : decode cX6_findError 5 = .ok (.aload_n 0, 1) := by decide +kernel
theorem dX6_findError_6 : decode cX6_findError 6 = .ok (.iconst 1, 1) := by decide +kernel
theorem dX6_findError_7 : decode cX6_findError 7 = .ok (.putfield 22, 3) := by decide +kernel
theorem dX6_findError_10 : decode cX6_findError 10 = .ok (.aload_n 0, 1) := by decide +kernel
theorem dX6_findError_11 : decode cX6_findError 11 = .ok (.getfield 22, 3) := by decide +kernel
theorem dX6_findError_14 : decode cX6_findError 14 = .ok (.bipush 60, 2) := by decide +kernel
theorem dX6_findError_16 : decode cX6_findError 16 = .ok (.if_icmp .gt 48, 3) := by decide +kernel
theorem dX6_findError_19 : decode cX6_findError 19 = .ok (.aload_n 0, 1) := by decide +kernel
theorem dX6_findError_20 : decode cX6_findError 20 = .ok (.invokevirtual 41, 3) := by decide +kernel
theorem dX6_findError_23 : decode cX6_findError 23 = .ok (.ifCond .eq 41, 3) := by decide +kernel
theorem dX6_findError_26 : decode cX6_findError 26 = .ok (.aload_n 0, 1) := by decide +kernel
theorem dX6_findError_27 : decode cX6_findError 27 = .ok (.getfield 19, 3) := by decide +kernel
theorem dX6_findError_30 : decode cX6_findError 30 = .ok (.aload_n 0, 1) := by decide +kernel
theorem dX6_findError_31 : decode cX6_findError 31 = .ok (.getfield 15, 3) := by decide +kernel
theorem dX6_findError_34 : decode cX6_findError 34 = .ok (.if_icmp .ne 5, 3) := by decide +kernel
theorem dX6_findError_37 : decode cX6_findError 37 = .ok (.iconst (-1), 1) := by decide +kernel
theorem dX6_findError_38 : decode cX6_findError 38 = .ok (.ireturn, 1) := by decide +kernel
theorem dX6_findError_39 : decode cX6_findError 39 = .ok (.aload_n 0, 1) := by decide +kernel
theorem dX6_findError_40 : decode cX6_findError 40 = .ok (.invokevirtual 45, 3) := by decide +kernel
theorem dX6_findError_43 : decode cX6_findError 43 = .ok (.ifCond .ne 8, 3) := by decide +kernel
theorem dX6_findError_46 : decode cX6_findError 46 = .ok (.aload_n 0, 1) := by decide +kernel
theorem dX6_findError_47 : decode cX6_findError 47 = .ok (.getfield 19, 3) := by decide +kernel
theorem dX6_findError_50 : decode cX6_findError 50 = .ok (.ireturn, 1) := by decide +kernel
theorem dX6_findError_51 : decode cX6_findError 51 = .ok (.aload_n 0, 1) := by decide +kernel
theorem dX6_findError_52 : decode cX6_findError 52 = .ok (.dup, 1) := by decide +kernel
theorem dX6_findError_53 : decode cX6_findError 53 = .ok (.getfield 22, 3) := by decide +kernel
theorem dX6_findError_56 : decode cX6_findError 56 = .ok (.iconst 1, 1) := by decide +kernel
theorem dX6_findError_57 : decode cX6_findError 57 = .ok (.iadd, 1) := by decide +kernel
theorem dX6_findError_58 : decode cX6_findError 58 = .ok (.putfield 22, 3) := by decide +kernel
theorem dX6_findError_61 : decode cX6_findError 61 = .ok (.goto (-51), 3) := by decide +kernel
theorem dX6_findError_64 : decode cX6_findError 64 = .ok (.aload_n 0, 1) := by decide +kernel
theorem dX6_findError_65 : decode cX6_findError 65 = .ok (.getfield 19, 3) := by decide +kernel
theorem dX6_findError_68 : decode cX6_findError 68 = .ok (.ireturn, 1) := by decide +kernel
theorem dX6_skipSemicolon_0 : decode cX6_skipSemicolon 0 = .ok (.aload_n 0, 1) := by decide +kernel
theorem dX6_skipSemicolon_1 : decode cX6_skipSemicolon 1 = .ok (.bipush 59, 2) := by decide +kernel
theorem dX6_skipSemicolon_3 : decode cX6_skipSemicolon 3 = .ok (.invokevirtual 48, 3) := by decide +kernel
theorem dX6_skipSemicolon_6 : decode cX6_skipSemicolon 6 = .ok (.ireturn, 1) := by decide +kernel
theorem dX6_readCommand_0 : decode cX6_readCommand 0 = .ok (.aload_n 0, 1) := by decide +kernel
theorem dX6_readCommand_1 : decode cX6_readCommand 1 = .ok (.getfield 19, 3) := by decide +kernel
theorem dX6_readCommand_4 : decode cX6_readCommand 4 = .ok (.istore_n 1, 1) := by decide +kernel
theorem dX6_readCommand_5 : decode cX6_readCommand 5 = .ok (.aload_n 0, 1) := by decide +kernel
theorem dX6_readCommand_6 : decode cX6_readCommand 6 = .ok (.getfield 19, 3) := by decide +kernel
theorem dX6_readCommand_9 : decode cX6_readCommand 9 = .ok (.istore_n 2, 1) := by decide +kernel
theorem dX6_readCommand_10 : decode cX6_readCommand 10 = .ok (.iconst 0, 1) := by decide +kernel
theorem dX6_readCommand_11 : decode cX6_readCommand 11 = .ok (.istore_n 3, 1) := by decide +kernel
theorem dX6_readCommand_12 : decode cX6_readCommand 12 = .ok (.iload_n 3, 1) := by decide +kernel
theorem dX6_readCommand_13 : decode cX6_readCommand 13 = .ok (.getstatic 52, 3) := by decide +kernel
theorem dX6_readCommand_16 : decode cX6_readCommand 16 = .ok (.arraylength, 1) := by decide +kernel
theorem dX6_readCommand_17 : decode cX6_readCommand 17 = .ok (.if_icmp .ge 49, 3) := by decide +kernel
theorem dX6_readCommand_20 : decode cX6_readCommand 20 = .ok (.aload_n 0, 1) := by decide +kernel
theorem dX6_readCommand_21 : decode cX6_readCommand 21 = .ok (.iload_n 1, 1) := by decide +kernel
theorem dX6_readCommand_22 : decode cX6_readCommand 22 = .ok (.putfield 19, 3) := by decide +kernel
theorem dX6_readCommand_25 : decode cX6_readCommand 25 = .ok (.aload_n 0, 1) := by decide +kernel
theorem dX6_readCommand_26 : decode cX6_readCommand 26 = .ok (.getstatic 52, 3) := by decide +kernel
theorem dX6_readCommand_29 : decode cX6_readCommand 29 = .ok (.iload_n 3, 1) := by decide +kernel
theorem dX6_readCommand_30 : decode cX6_readCommand 30 = .ok (.aaload, 1) := by decide +kernel
theorem dX6_readCommand_31 : decode cX6_readCommand 31 = .ok (.getfield 56, 3) := by decide +kernel
theorem dX6_readCommand_34 : decode cX6_readCommand 34 = .ok (.invokevirtual 60, 3) := by decide +kernel
theorem dX6_readCommand_37 : decode cX6_readCommand 37 = .ok (.ifCond .eq 14, 3) := by decide +kernel
theorem dX6_readCommand_40 : decode cX6_readCommand 40 = .ok (.aload_n 0, 1) := by decide +kernel
theorem dX6_readCommand_41 : decode cX6_readCommand 41 = .ok (.getstatic 52, 3) := by decide +kernel
theorem dX6_readCommand_44 : decode cX6_readCommand 44 = .ok (.iload_n 3, 1) := by decide +kernel
theorem dX6_readCommand_45 : decode cX6_readCommand 45 = .ok (.aaload, 1) := by decide +kernel
theorem dX6_readCommand_46 : decode cX6_readCommand 46 = .ok (.putfield 31, 3) := by decide +kernel
theorem dX6_readCommand_49 : decode cX6_readCommand 49 = .ok (.iconst 1, 1) := by decide +kernel
theorem dX6_readCommand_50 : decode cX6_readCommand 50 = .ok (.ireturn, 1) := by decide +kernel
theorem dX6_readCommand_51 : decode cX6_readCommand 51 = .ok (.iload_n 2, 1) := by decide +kernel
theorem dX6_readCommand_52 : decode cX6_readCommand 52 = .ok (.aload_n 0, 1) := by decide +kernel
theorem dX6_readCommand_53 : decode cX6_readCommand 53 = .ok (.getfield 19, 3) := by decide +kernel
theorem dX6_readCommand_56 : decode cX6_readCommand 56 = .ok (.invokestatic 64, 3) := by decide +kernel
theorem dX6_readCommand_59 : decode cX6_readCommand 59 = .ok (.istore_n 2, 1) := by decide +kernel
theorem dX6_readCommand_60 : decode cX6_readCommand 60 = .ok (.iinc 3 1, 3) := by decide +kernel
theorem dX6_readCommand_63 : decode cX6_readCommand 63 = .ok (.goto (-51), 3) := by decide +kernel
theorem dX6_readCommand_66 : decode cX6_readCommand 66 = .ok (.aload_n 0, 1) := by decide +kernel
theorem dX6_readCommand_67 : decode cX6_readCommand 67 = .ok (.iload_n 2, 1) := by decide +kernel
theorem dX6_readCommand_68 : decode cX6_readCommand 68 = .ok (.putfield 19, 3) := by decide +kernel
theorem dX6_readCommand_71 : decode cX6_readCommand 71 = .ok (.iconst 0, 1) := by decide +kernel
theorem dX6_readCommand_72 : decode cX6_readCommand 72 = .ok (.ireturn, 1) := by decide +kernel
theorem dX6_fits_0 : decode cX6_fits 0 = .ok (.aload_n 0, 1) := by decide +kernel
theorem dX6_fits_1 : decode cX6_fits 1 = .ok (.iconst 0, 1) := by decide +kernel
theorem dX6_fits_2 : decode cX6_fits 2 = .ok (.putfield 38, 3) := by decide +kernel
theorem dX6_fits_5 : decode cX6_fits 5 = .ok (.iconst 0, 1) := by decide +kernel
theorem dX6_fits_6 : decode cX6_fits 6 = .ok (.istore_n 2, 1) := by decide +kernel
theorem dX6_fits_7 : decode cX6_fits 7 = .ok (.iload_n 2, 1) := by decide +kernel
theorem dX6_fits_8 : decode cX6_fits 8 = .ok (.aload_n 1, 1) := by decide +kernel
theorem dX6_fits_9 : decode cX6_fits 9 = .ok (.invokevirtual 70, 3) := by decide +kernel
theorem dX6_fits_12 : decode cX6_fits 12 = .ok (.if_icmp .ge 23, 3) := by decide +kernel
theorem dX6_fits_15 : decode cX6_fits 15 = .ok (.aload_n 0, 1) := by decide +kernel
theorem dX6_fits_16 : decode cX6_fits 16 = .ok (.aload_n 1, 1) := by decide +kernel
theorem dX6_fits_17 : decode cX6_fits 17 = .ok (.iload_n 2, 1) := by decide +kernel
theorem dX6_fits_18 : decode cX6_fits 18 = .ok (.invokevirtual 75, 3) := by decide +kernel
theorem dX6_fits_21 : decode cX6_fits 21 = .ok (.invokevirtual 79, 3) := by decide +kernel
theorem dX6_fits_24 : decode cX6_fits 24 = .ok (.ifCond .ne 5, 3) := by decide +kernel
theorem dX6_fits_27 : decode cX6_fits 27 = .ok (.iconst 0, 1) := by decide +kernel
theorem dX6_fits_28 : decode cX6_fits 28 = .ok (.ireturn, 1) := by decide +kernel
theorem dX6_fits_29 : decode cX6_fits 29 = .ok (.iinc 2 1, 3) := by decide +kernel
theorem dX6_fits_32 : decode cX6_fits 32 = .ok (.goto (-25), 3) := by decide +kernel
theorem dX6_fits_35 : decode cX6_fits 35 = .ok (.iconst 1, 1) := by decide +kernel
theorem dX6_fits_36 : decode cX6_fits 36 = .ok (.ireturn, 1) := by decide +kernel
theorem dX6_takePart_0 : decode cX6_takePart 0 = .ok (.iload_n 1, 1) := by decide +kernel
theorem dX6_takePart_1 : decode cX6_takePart 1 = .ok (.bipush 78, 2) := by decide +kernel
theorem dX6_takePart_3 : decode cX6_takePart 3 = .ok (.if_icmp .ne 9, 3) := by decide +kernel
theorem dX6_takePart_6 : decode cX6_takePart 6 = .ok (.aload_n 0, 1) := by decide +kernel
theorem dX6_takePart_7 : decode cX6_takePart 7 = .ok (.iconst 3, 1) := by decide +kernel
theorem dX6_takePart_8 : decode cX6_takePart 8 = .ok (.invokevirtual 82, 3) := by decide +kernel
theorem dX6_takePart_11 : decode cX6_takePart 11 = .ok (.ireturn, 1) := by decide +kernel
theorem dX6_takePart_12 : decode cX6_takePart 12 = .ok (.iload_n 1, 1) := by decide +kernel
theorem dX6_takePart_13 : decode cX6_takePart 13 = .ok (.bipush 68, 2) := by decide +kernel
theorem dX6_takePart_15 : decode cX6_takePart 15 = .ok (.if_icmp .ne 9, 3) := by decide +kernel
theorem dX6_takePart_18 : decode cX6_takePart 18 = .ok (.aload_n 0, 1) := by decide +kernel
theorem dX6_takePart_19 : decode cX6_takePart 19 = .ok (.iconst 1, 1) := by decide +kernel
theorem dX6_takePart_20 : decode cX6_takePart 20 = .ok (.invokevirtual 82, 3) := by decide +kernel
theorem dX6_takePart_23 : decode cX6_takePart 23 = .ok (.ireturn, 1) := by decide +kernel
theorem dX6_takePart_24 : decode cX6_takePart 24 = .ok (.iload_n 1, 1) := by decide +kernel
theorem dX6_takePart_25 : decode cX6_takePart 25 = .ok (.bipush 83, 2) := by decide +kernel
theorem dX6_takePart_27 : decode cX6_takePart 27 = .ok (.if_icmp .ne 10, 3) := by decide +kernel
theorem dX6_takePart_30 : decode cX6_takePart 30 = .ok (.aload_n 0, 1) := by decide +kernel
theorem dX6_takePart_31 : decode cX6_takePart 31 = .ok (.invokevirtual 86, 3) := by decide +kernel
theorem dX6_takePart_34 : decode cX6_takePart 34 = .ok (.goto 8, 3) := by decide +kernel
theorem dX6_takePart_37 : decode cX6_takePart 37 = .ok (.aload_n 0, 1) := by decide +kernel
theorem dX6_takePart_38 : decode cX6_takePart 38 = .ok (.iload_n 1, 1) := by decide +kernel
theorem dX6_takePart_39 : decode cX6_takePart 39 = .ok (.invokevirtual 48, 3) := by decide +kernel
theorem dX6_takePart_42 : decode cX6_takePart 42 = .ok (.ireturn, 1) := by decide +kernel
theorem dX6_takeNumber_0 : decode cX6_takeNumber 0 = .ok (.iconst 0, 1) := by decide +kernel
theorem dX6_takeNumber_1 : decode cX6_takeNumber 1 = .ok (.istore_n 2, 1) := by decide +kernel
theorem dX6_takeNumber_2 : decode cX6_takeNumber 2 = .ok (.iconst 0, 1) := by decide +kernel
theorem dX6_takeNumber_3 : decode cX6_takeNumber 3 = .ok (.istore_n 3, 1) := by decide +kernel
theorem dX6_takeNumber_4 : decode cX6_takeNumber 4 = .ok (.iload_n 2, 1) := by decide +kernel
theorem dX6_takeNumber_5 : decode cX6_takeNumber 5 = .ok (.iload_n 1, 1) := by decide +kernel
theorem dX6_takeNumber_6 : decode cX6_takeNumber 6 = .ok (.if_icmp .ge 44, 3) := by decide +kernel
theorem dX6_takeNumber_9 : decode cX6_takeNumber 9 = .ok (.aload_n 0, 1) := by decide +kernel
theorem dX6_takeNumber_10 : decode cX6_takeNumber 10 = .ok (.invokevirtual 89, 3) := by decide +kernel
theorem dX6_takeNumber_13 : decode cX6_takeNumber 13 = .ok (.ifCond .eq 37, 3) := by decide +kernel
theorem dX6_takeNumber_16 : decode cX6_takeNumber 16 = .ok (.bipush 10, 2) := by decide +kernel
theorem dX6_takeNumber_18 : decode cX6_takeNumber 18 = .ok (.iload_n 3, 1) := by decide +kernel
theorem dX6_takeNumber_19 : decode cX6_takeNumber 19 = .ok (.imul, 1) := by decide +kernel
theorem dX6_takeNumber_20 : decode cX6_takeNumber 20 = .ok (.aload_n 0, 1) := by decide +kernel
theorem dX6_takeNumber_21 : decode cX6_takeNumber 21 = .ok (.getfield 9, 3) := by decide +kernel
theorem dX6_takeNumber_24 : decode cX6_takeNumber 24 = .ok (.aload_n 0, 1) := by decide +kernel
theorem dX6_takeNumber_25 : decode cX6_takeNumber 25 = .ok (.getfield 19, 3) := by decide +kernel
theorem dX6_takeNumber_28 : decode cX6_takeNumber 28 = .ok (.caload, 1) := by decide +kernel
theorem dX6_takeNumber_29 : decode cX6_takeNumber 29 = .ok (.bipush 48, 2) := by decide +kernel
theorem dX6_takeNumber_31 : decode cX6_takeNumber 31 = .ok (.isub, 1) := by decide +kernel
theorem dX6_takeNumber_32 : decode cX6_takeNumber 32 = .ok (.iadd, 1) := by decide +kernel
theorem dX6_takeNumber_33 : decode cX6_takeNumber 33 = .ok (.istore_n 3, 1) := by decide +kernel
theorem dX6_takeNumber_34 : decode cX6_takeNumber 34 = .ok (.aload_n 0, 1) := by decide +kernel
theorem dX6_takeNumber_35 : decode cX6_takeNumber 35 = .ok (.dup, 1) := by decide +kernel
theorem dX6_takeNumber_36 : decode cX6_takeNumber 36 = .ok (.getfield 19, 3) := by decide +kernel
theorem dX6_takeNumber_39 : decode cX6_takeNumber 39 = .ok (.iconst 1, 1) := by decide +kernel
theorem dX6_takeNumber_40 : decode cX6_takeNumber 40 = .ok (.iadd, 1) := by decide +kernel
theorem dX6_takeNumber_41 : decode cX6_takeNumber 41 = .ok (.putfield 19, 3) := by decide +kernel
theorem dX6_takeNumber_44 : decode cX6_takeNumber 44 = .ok (.iinc 2 1, 3) := by decide +kernel
theorem dX6_takeNumber_47 : decode cX6_takeNumber 47 = .ok (.goto (-43), 3) := by decide +kernel
theorem dX6_takeNumber_50 : decode cX6_takeNumber 50 = .ok (.iload_n 2, 1) := by decide +kernel
theorem dX6_takeNumber_51 : decode cX6_takeNumber 51 = .ok (.ifCond .ne 5, 3) := by decide +kernel
theorem dX6_takeNumber_54 : decode cX6_takeNumber 54 = .ok (.iconst 0, 1) := by decide +kernel
theorem dX6_takeNumber_55 : decode cX6_takeNumber 55 = .ok (.ireturn, 1) := by decide +kernel
theorem dX6_takeNumber_56 : decode cX6_takeNumber 56 = .ok (.aload_n 0, 1) := by decide +kernel
theorem dX6_takeNumber_57 : decode cX6_takeNumber 57 = .ok (.iload_n 3, 1) := by decide +kernel
theorem dX6_takeNumber_58 : decode cX6_takeNumber 58 = .ok (.invokevirtual 92, 3) := by decide +kernel
theorem dX6_takeNumber_61 : decode cX6_takeNumber 61 = .ok (.iconst 1, 1) := by decide +kernel
theorem dX6_takeNumber_62 : decode cX6_takeNumber 62 = .ok (.ireturn, 1) := by decide +kernel
theorem dX6_standsAtDigit_0 : decode cX6_standsAtDigit 0 = .ok (.aload_n 0, 1) := by decide +kernel
theorem dX6_standsAtDigit_1 : decode cX6_standsAtDigit 1 = .ok (.getfield 19, 3) := by decide +kernel
theorem dX6_standsAtDigit_4 : decode cX6_standsAtDigit 4 = .ok (.aload_n 0, 1) := by decide +kernel
theorem dX6_standsAtDigit_5 : decode cX6_standsAtDigit 5 = .ok (.getfield 15, 3) := by decide +kernel
theorem dX6_standsAtDigit_8 : decode cX6_standsAtDigit 8 = .ok (.if_icmp .ge 35, 3) := by decide +kernel
theorem dX6_standsAtDigit_11 : decode cX6_standsAtDigit 11 = .ok (.aload_n 0, 1) := by decide +kernel
theorem dX6_standsAtDigit_12 : decode cX6_standsAtDigit 12 = .ok (.getfield 9, 3) := by decide +kernel
theorem dX6_standsAtDigit_15 : decode cX6_standsAtDigit 15 = .ok (.aload_n 0, 1) := by decide +kernel
theorem dX6_standsAtDigit_16 : decode cX6_standsAtDigit 16 = .ok (.getfield 19, 3) := by decide +kernel
theorem dX6_standsAtDigit_19 : decode cX6_standsAtDigit 19 = .ok (.caload, 1) := by decide +kernel
theorem dX6_standsAtDigit_20 : decode cX6_standsAtDigit 20 = .ok (.bipush 48, 2) := by decide +kernel
theorem dX6_standsAtDigit_22 : decode cX6_standsAtDigit 22 = .ok (.if_icmp .lt 21, 3) := by decide +kernel
theorem dX6_standsAtDigit_25 : decode cX6_standsAtDigit 25 = .ok (.aload_n 0, 1) := by decide +kernel
theorem dX6_standsAtDigit_26 : decode cX6_standsAtDigit 26 = .ok (.getfield 9, 3) := by decide +kernel
theorem dX6_standsAtDigit_29 : decode cX6_standsAtDigit 29 = .ok (.aload_n 0, 1) := by decide +kernel
theorem dX6_standsAtDigit_30 : decode cX6_standsAtDigit 30 = .ok (.getfield 19, 3) := by decide +kernel
theorem dX6_standsAtDigit_33 : decode cX6_standsAtDigit 33 = .ok (.caload, 1) := by decide +kernel
theorem dX6_standsAtDigit_34 : decode cX6_standsAtDigit 34 = .ok (.bipush 57, 2) := by decide +kernel
theorem dX6_standsAtDigit_36 : decode cX6_standsAtDigit 36 = .ok (.if_icmp .gt 7, 3) := by decide +kernel
theorem dX6_standsAtDigit_39 : decode cX6_standsAtDigit 39 = .ok (.iconst 1, 1) := by decide +kernel
theorem dX6_standsAtDigit_40 : decode cX6_standsAtDigit 40 = .ok (.goto 4, 3) := by decide +kernel
theorem dX6_standsAtDigit_43 : decode cX6_standsAtDigit 43 = .ok (.iconst 0, 1) := by decide +kernel
theorem dX6_standsAtDigit_44 : decode cX6_standsAtDigit 44 = .ok (.ireturn, 1) := by decide +kernel
theorem dX6_takeSign_0 : decode cX6_takeSign 0 = .ok (.aload_n 0, 1) := by decide +kernel
theorem dX6_takeSign_1 : decode cX6_takeSign 1 = .ok (.bipush 43, 2) := by decide +kernel
theorem dX6_takeSign_3 : decode cX6_takeSign 3 = .ok (.invokevirtual 48, 3) := by decide +kernel
theorem dX6_takeSign_6 : decode cX6_takeSign 6 = .ok (.ifCond .eq 10, 3) := by decide +kernel
theorem dX6_takeSign_9 : decode cX6_takeSign 9 = .ok (.aload_n 0, 1) := by decide +kernel
theorem dX6_takeSign_10 : decode cX6_takeSign 10 = .ok (.iconst 1, 1) := by decide +kernel
theorem dX6_takeSign_11 : decode cX6_takeSign 11 = .ok (.invokevirtual 92, 3) := by decide +kernel
theorem dX6_takeSign_14 : decode cX6_takeSign 14 = .ok (.iconst 1, 1) := by decide +kernel
theorem dX6_takeSign_15 : decode cX6_takeSign 15 = .ok (.ireturn, 1) := by decide +kernel
theorem dX6_takeSign_16 : decode cX6_takeSign 16 = .ok (.aload_n 0, 1) := by decide +kernel
theorem dX6_takeSign_17 : decode cX6_takeSign 17 = .ok (.bipush 45, 2) := by decide +kernel
theorem dX6_takeSign_19 : decode cX6_takeSign 19 = .ok (.invokevirtual 48, 3) := by decide +kernel
theorem dX6_takeSign_22 : decode cX6_takeSign 22 = .ok (.ifCond .eq 10, 3) := by decide +kernel
theorem dX6_takeSign_25 : decode cX6_takeSign 25 = .ok (.aload_n 0, 1) := by decide +kernel
theorem dX6_takeSign_26 : decode cX6_takeSign 26 = .ok (.iconst (-1), 1) := by decide +kernel
theorem dX6_takeSign_27 : decode cX6_takeSign 27 = .ok (.invokevirtual 92, 3) := by decide +kernel
theorem dX6_takeSign_30 : decode cX6_takeSign 30 = .ok (.iconst 1, 1) := by decide +kernel
theorem dX6_takeSign_31 : decode cX6_takeSign 31 = .ok (.ireturn, 1) := by decide +kernel
theorem dX6_takeSign_32 : decode cX6_takeSign 32 = .ok (.iconst 0, 1) := by decide +kernel
theorem dX6_takeSign_33 : decode cX6_takeSign 33 = .ok (.ireturn, 1) := by decide +kernel
theorem dX6_takeCharacter_0 : decode cX6_takeCharacter 0 = .ok (.aload_n 0, 1) := by decide +kernel
theorem dX6_takeCharacter_1 : decode cX6_takeCharacter 1 = .ok (.getfield 19, 3) := by decide +kernel
theorem dX6_takeCharacter_4 : decode cX6_takeCharacter 4 = .ok (.aload_n 0, 1) := by decide +kernel
theorem dX6_takeCharacter_5 : decode cX6_takeCharacter 5 = .ok (.getfield 15, 3) := by decide +kernel
theorem dX6_takeCharacter_8 : decode cX6_takeCharacter 8 = .ok (.if_icmp .ge 16, 3) := by decide +kernel
theorem dX6_takeCharacter_11 : decode cX6_takeCharacter 11 = .ok (.aload_n 0, 1) := by decide +kernel
theorem dX6_takeCharacter_12 : decode cX6_takeCharacter 12 = .ok (.getfield 9, 3) := by decide +kernel
theorem dX6_takeCharacter_15 : decode cX6_takeCharacter 15 = .ok (.aload_n 0, 1) := by decide +kernel
theorem dX6_takeCharacter_16 : decode cX6_takeCharacter 16 = .ok (.getfield 19, 3) := by decide +kernel
theorem dX6_takeCharacter_19 : decode cX6_takeCharacter 19 = .ok (.caload, 1) := by decide +kernel
theorem dX6_takeCharacter_20 : decode cX6_takeCharacter 20 = .ok (.iload_n 1, 1) := by decide +kernel
theorem dX6_takeCharacter_21 : decode cX6_takeCharacter 21 = .ok (.if_icmp .eq 5, 3) := by decide +kernel
theorem dX6_takeCharacter_24 : decode cX6_takeCharacter 24 = .ok (.iconst 0, 1) := by decide +kernel
theorem dX6_takeCharacter_25 : decode cX6_takeCharacter 25 = .ok (.ireturn, 1) := by decide +kernel
theorem dX6_takeCharacter_26 : decode cX6_takeCharacter 26 = .ok (.aload_n 0, 1) := by decide +kernel
theorem dX6_takeCharacter_27 : decode cX6_takeCharacter 27 = .ok (.dup, 1) := by decide +kernel
theorem dX6_takeCharacter_28 : decode cX6_takeCharacter 28 = .ok (.getfield 19, 3) := by decide +kernel
theorem dX6_takeCharacter_31 : decode cX6_takeCharacter 31 = .ok (.iconst 1, 1) := by decide +kernel
theorem dX6_takeCharacter_32 : decode cX6_takeCharacter 32 = .ok (.iadd, 1) := by decide +kernel
theorem dX6_takeCharacter_33 : decode cX6_takeCharacter 33 = .ok (.putfield 19, 3) := by decide +kernel
theorem dX6_takeCharacter_36 : decode cX6_takeCharacter 36 = .ok (.iconst 1, 1) := by decide +kernel
theorem dX6_takeCharacter_37 : decode cX6_takeCharacter 37 = .ok (.ireturn, 1) := by decide +kernel
theorem dX6_keepNumber_0 : decode cX6_keepNumber 0 = .ok (.aload_n 0, 1) := by decide +kernel
theorem dX6_keepNumber_1 : decode cX6_keepNumber 1 = .ok (.getfield 38, 3) := by decide +kernel
theorem dX6_keepNumber_4 : decode cX6_keepNumber 4 = .ok (.iconst 4, 1) := by decide +kernel
theorem dX6_keepNumber_5 : decode cX6_keepNumber 5 = .ok (.if_icmp .ge 23, 3) := by decide +kernel
theorem dX6_keepNumber_8 : decode cX6_keepNumber 8 = .ok (.aload_n 0, 1) := by decide +kernel
theorem dX6_keepNumber_9 : decode cX6_keepNumber 9 = .ok (.getfield 34, 3) := by decide +kernel
theorem dX6_keepNumber_12 : decode cX6_keepNumber 12 = .ok (.aload_n 0, 1) := by decide +kernel
theorem dX6_keepNumber_13 : decode cX6_keepNumber 13 = .ok (.getfield 38, 3) := by decide +kernel
theorem dX6_keepNumber_16 : decode cX6_keepNumber 16 = .ok (.iload_n 1, 1) := by decide +kernel
theorem dX6_keepNumber_17 : decode cX6_keepNumber 17 = .ok (.iastore, 1) := by decide +kernel
theorem dX6_keepNumber_18 : decode cX6_keepNumber 18 = .ok (.aload_n 0, 1) := by decide +kernel
theorem dX6_keepNumber_19 : decode cX6_keepNumber 19 = .ok (.dup, 1) := by decide +kernel
theorem dX6_keepNumber_20 : decode cX6_keepNumber 20 = .ok (.getfield 38, 3) := by decide +kernel
theorem dX6_keepNumber_23 : decode cX6_keepNumber 23 = .ok (.iconst 1, 1) := by decide +kernel
theorem dX6_keepNumber_24 : decode cX6_keepNumber 24 = .ok (.iadd, 1) := by decide +kernel
theorem dX6_keepNumber_25 : decode cX6_keepNumber 25 = .ok (.putfield 38, 3) := by decide +kernel
theorem dX6_keepNumber_28 : decode cX6_keepNumber 28 = .ok (.return_, 1) := by decide +kernel
