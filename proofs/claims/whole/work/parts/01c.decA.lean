theorem dX0_init_0 : decode cX0_init 0 = .ok (.aload_n 0, 1) := by decide +kernel
theorem dX0_init_1 : decode cX0_init 1 = .ok (.invokespecial 3, 3) := by decide +kernel
theorem dX0_init_4 : decode cX0_init 4 = .ok (.aload_n 0, 1) := by decide +kernel
theorem dX0_init_5 : decode cX0_init 5 = .ok (.new 9, 3) := by decide +kernel
theorem dX0_init_8 : decode cX0_init 8 = .ok (.dup, 1) := by decide +kernel
theorem dX0_init_9 : decode cX0_init 9 = .ok (.invokespecial 11, 3) := by decide +kernel
theorem dX0_init_12 : decode cX0_init 12 = .ok (.putfield 12, 3) := by decide +kernel
theorem dX0_init_15 : decode cX0_init 15 = .ok (.return_, 1) := by decide +kernel
theorem dX0_restart_0 : decode cX0_restart 0 = .ok (.aload_n 0, 1) := by decide +kernel
theorem dX0_restart_1 : decode cX0_restart 1 = .ok (.iconst 0, 1) := by decide +kernel
theorem dX0_restart_2 : decode cX0_restart 2 = .ok (.putfield 18, 3) := by decide +kernel
theorem dX0_restart_5 : decode cX0_restart 5 = .ok (.aload_n 0, 1) := by decide +kernel
theorem dX0_restart_6 : decode cX0_restart 6 = .ok (.bipush 8, 2) := by decide +kernel
theorem dX0_restart_8 : decode cX0_restart 8 = .ok (.aload_n 0, 1) := by decide +kernel
theorem dX0_restart_9 : decode cX0_restart 9 = .ok (.getfield 12, 3) := by decide +kernel
theorem dX0_restart_12 : decode cX0_restart 12 = .ok (.getfield 22, 3) := by decide +kernel
theorem dX0_restart_15 : decode cX0_restart 15 = .ok (.imul, 1) := by decide +kernel
theorem dX0_restart_16 : decode cX0_restart 16 = .ok (.putfield 25, 3) := by decide +kernel
theorem dX0_restart_19 : decode cX0_restart 19 = .ok (.return_, 1) := by decide +kernel
theorem dX0_bitHere_0 : decode cX0_bitHere 0 = .ok (.aload_n 0, 1) := by decide +kernel
theorem dX0_bitHere_1 : decode cX0_bitHere 1 = .ok (.getfield 18, 3) := by decide +kernel
theorem dX0_bitHere_4 : decode cX0_bitHere 4 = .ok (.aload_n 0, 1) := by decide +kernel
theorem dX0_bitHere_5 : decode cX0_bitHere 5 = .ok (.getfield 25, 3) := by decide +kernel
theorem dX0_bitHere_8 : decode cX0_bitHere 8 = .ok (.if_icmp .ge 33, 3) := by decide +kernel
theorem dX0_bitHere_11 : decode cX0_bitHere 11 = .ok (.aload_n 0, 1) := by decide +kernel
theorem dX0_bitHere_12 : decode cX0_bitHere 12 = .ok (.getfield 12, 3) := by decide +kernel
theorem dX0_bitHere_15 : decode cX0_bitHere 15 = .ok (.getfield 28, 3) := by decide +kernel
theorem dX0_bitHere_18 : decode cX0_bitHere 18 = .ok (.aload_n 0, 1) := by decide +kernel
theorem dX0_bitHere_19 : decode cX0_bitHere 19 = .ok (.getfield 18, 3) := by decide +kernel
theorem dX0_bitHere_22 : decode cX0_bitHere 22 = .ok (.iconst 3, 1) := by decide +kernel
theorem dX0_bitHere_23 : decode cX0_bitHere 23 = .ok (.ishr, 1) := by decide +kernel
theorem dX0_bitHere_24 : decode cX0_bitHere 24 = .ok (.baload, 1) := by decide +kernel
theorem dX0_bitHere_25 : decode cX0_bitHere 25 = .ok (.bipush 7, 2) := by decide +kernel
theorem dX0_bitHere_27 : decode cX0_bitHere 27 = .ok (.aload_n 0, 1) := by decide +kernel
theorem dX0_bitHere_28 : decode cX0_bitHere 28 = .ok (.getfield 18, 3) := by decide +kernel
theorem dX0_bitHere_31 : decode cX0_bitHere 31 = .ok (.bipush 7, 2) := by decide +kernel
theorem dX0_bitHere_33 : decode cX0_bitHere 33 = .ok (.iand, 1) := by decide +kernel
theorem dX0_bitHere_34 : decode cX0_bitHere 34 = .ok (.isub, 1) := by decide +kernel
theorem dX0_bitHere_35 : decode cX0_bitHere 35 = .ok (.ishr, 1) := by decide +kernel
theorem dX0_bitHere_36 : decode cX0_bitHere 36 = .ok (.iconst 1, 1) := by decide +kernel
theorem dX0_bitHere_37 : decode cX0_bitHere 37 = .ok (.iand, 1) := by decide +kernel
theorem dX0_bitHere_38 : decode cX0_bitHere 38 = .ok (.goto 4, 3) := by decide +kernel
theorem dX0_bitHere_41 : decode cX0_bitHere 41 = .ok (.iconst 0, 1) := by decide +kernel
theorem dX0_bitHere_42 : decode cX0_bitHere 42 = .ok (.ireturn, 1) := by decide +kernel
theorem dX0_nextLowBits_0 : decode cX0_nextLowBits 0 = .ok (.aload_n 0, 1) := by decide +kernel
theorem dX0_nextLowBits_1 : decode cX0_nextLowBits 1 = .ok (.getfield 25, 3) := by decide +kernel
theorem dX0_nextLowBits_4 : decode cX0_nextLowBits 4 = .ok (.aload_n 0, 1) := by decide +kernel
theorem dX0_nextLowBits_5 : decode cX0_nextLowBits 5 = .ok (.getfield 18, 3) := by decide +kernel
theorem dX0_nextLowBits_8 : decode cX0_nextLowBits 8 = .ok (.isub, 1) := by decide +kernel
theorem dX0_nextLowBits_9 : decode cX0_nextLowBits 9 = .ok (.iload_n 1, 1) := by decide +kernel
theorem dX0_nextLowBits_10 : decode cX0_nextLowBits 10 = .ok (.if_icmp .ge 5, 3) := by decide +kernel
theorem dX0_nextLowBits_13 : decode cX0_nextLowBits 13 = .ok (.iconst (-1), 1) := by decide +kernel
theorem dX0_nextLowBits_14 : decode cX0_nextLowBits 14 = .ok (.ireturn, 1) := by decide +kernel
theorem dX0_nextLowBits_15 : decode cX0_nextLowBits 15 = .ok (.iconst 0, 1) := by decide +kernel
theorem dX0_nextLowBits_16 : decode cX0_nextLowBits 16 = .ok (.istore_n 2, 1) := by decide +kernel
theorem dX0_nextLowBits_17 : decode cX0_nextLowBits 17 = .ok (.iconst 0, 1) := by decide +kernel
theorem dX0_nextLowBits_18 : decode cX0_nextLowBits 18 = .ok (.istore_n 3, 1) := by decide +kernel
theorem dX0_nextLowBits_19 : decode cX0_nextLowBits 19 = .ok (.iload_n 3, 1) := by decide +kernel
theorem dX0_nextLowBits_20 : decode cX0_nextLowBits 20 = .ok (.iload_n 1, 1) := by decide +kernel
theorem dX0_nextLowBits_21 : decode cX0_nextLowBits 21 = .ok (.if_icmp .ge 28, 3) := by decide +kernel
theorem dX0_nextLowBits_24 : decode cX0_nextLowBits 24 = .ok (.iload_n 2, 1) := by decide +kernel
theorem dX0_nextLowBits_25 : decode cX0_nextLowBits 25 = .ok (.iconst 2, 1) := by decide +kernel
theorem dX0_nextLowBits_26 : decode cX0_nextLowBits 26 = .ok (.imul, 1) := by decide +kernel
theorem dX0_nextLowBits_27 : decode cX0_nextLowBits 27 = .ok (.aload_n 0, 1) := by decide +kernel
theorem dX0_nextLowBits_28 : decode cX0_nextLowBits 28 = .ok (.invokevirtual 32, 3) := by decide +kernel
theorem dX0_nextLowBits_31 : decode cX0_nextLowBits 31 = .ok (.iadd, 1) := by decide +kernel
theorem dX0_nextLowBits_32 : decode cX0_nextLowBits 32 = .ok (.istore_n 2, 1) := by decide +kernel
theorem dX0_nextLowBits_33 : decode cX0_nextLowBits 33 = .ok (.aload_n 0, 1) := by decide +kernel
theorem dX0_nextLowBits_34 : decode cX0_nextLowBits 34 = .ok (.dup, 1) := by decide +kernel
theorem dX0_nextLowBits_35 : decode cX0_nextLowBits 35 = .ok (.getfield 18, 3) := by decide +kernel
theorem dX0_nextLowBits_38 : decode cX0_nextLowBits 38 = .ok (.iconst 1, 1) := by decide +kernel
theorem dX0_nextLowBits_39 : decode cX0_nextLowBits 39 = .ok (.iadd, 1) := by decide +kernel
theorem dX0_nextLowBits_40 : decode cX0_nextLowBits 40 = .ok (.putfield 18, 3) := by decide +kernel
theorem dX0_nextLowBits_43 : decode cX0_nextLowBits 43 = .ok (.iinc 3 1, 3) := by decide +kernel
theorem dX0_nextLowBits_46 : decode cX0_nextLowBits 46 = .ok (.goto (-27), 3) := by decide +kernel
theorem dX0_nextLowBits_49 : decode cX0_nextLowBits 49 = .ok (.iload_n 2, 1) := by decide +kernel
theorem dX0_nextLowBits_50 : decode cX0_nextLowBits 50 = .ok (.ireturn, 1) := by decide +kernel
theorem dX0_nextNumber_0 : decode cX0_nextNumber 0 = .ok (.aload_n 0, 1) := by decide +kernel
theorem dX0_nextNumber_1 : decode cX0_nextNumber 1 = .ok (.getfield 18, 3) := by decide +kernel
theorem dX0_nextNumber_4 : decode cX0_nextNumber 4 = .ok (.istore_n 2, 1) := by decide +kernel
theorem dX0_nextNumber_5 : decode cX0_nextNumber 5 = .ok (.aload_n 0, 1) := by decide +kernel
theorem dX0_nextNumber_6 : decode cX0_nextNumber 6 = .ok (.getfield 18, 3) := by decide +kernel
theorem dX0_nextNumber_9 : decode cX0_nextNumber 9 = .ok (.aload_n 0, 1) := by decide +kernel
theorem dX0_nextNumber_10 : decode cX0_nextNumber 10 = .ok (.getfield 25, 3) := by decide +kernel
theorem dX0_nextNumber_13 : decode cX0_nextNumber 13 = .ok (.if_icmp .ge 23, 3) := by decide +kernel
theorem dX0_nextNumber_16 : decode cX0_nextNumber 16 = .ok (.aload_n 0, 1) := by decide +kernel
theorem dX0_nextNumber_17 : decode cX0_nextNumber 17 = .ok (.invokevirtual 32, 3) := by decide +kernel
theorem dX0_nextNumber_20 : decode cX0_nextNumber 20 = .ok (.ifCond .ne 16, 3) := by decide +kernel
theorem dX0_nextNumber_23 : decode cX0_nextNumber 23 = .ok (.aload_n 0, 1) := by decide +kernel
theorem dX0_nextNumber_24 : decode cX0_nextNumber 24 = .ok (.dup, 1) := by decide +kernel
theorem dX0_nextNumber_25 : decode cX0_nextNumber 25 = .ok (.getfield 18, 3) := by decide +kernel
theorem dX0_nextNumber_28 : decode cX0_nextNumber 28 = .ok (.iconst 1, 1) := by decide +kernel
theorem dX0_nextNumber_29 : decode cX0_nextNumber 29 = .ok (.iadd, 1) := by decide +kernel
theorem dX0_nextNumber_30 : decode cX0_nextNumber 30 = .ok (.putfield 18, 3) := by decide +kernel
theorem dX0_nextNumber_33 : decode cX0_nextNumber 33 = .ok (.goto (-28), 3) := by decide +kernel
theorem dX0_nextNumber_36 : decode cX0_nextNumber 36 = .ok (.aload_n 0, 1) := by decide +kernel
theorem dX0_nextNumber_37 : decode cX0_nextNumber 37 = .ok (.getfield 18, 3) := by decide +kernel
theorem dX0_nextNumber_40 : decode cX0_nextNumber 40 = .ok (.iload_n 2, 1) := by decide +kernel
theorem dX0_nextNumber_41 : decode cX0_nextNumber 41 = .ok (.isub, 1) := by decide +kernel
theorem dX0_nextNumber_42 : decode cX0_nextNumber 42 = .ok (.istore_n 3, 1) := by decide +kernel
theorem dX0_nextNumber_43 : decode cX0_nextNumber 43 = .ok (.aload_n 0, 1) := by decide +kernel
theorem dX0_nextNumber_44 : decode cX0_nextNumber 44 = .ok (.dup, 1) := by decide +kernel
theorem dX0_nextNumber_45 : decode cX0_nextNumber 45 = .ok (.getfield 18, 3) := by decide +kernel
theorem dX0_nextNumber_48 : decode cX0_nextNumber 48 = .ok (.iconst 1, 1) := by decide +kernel
theorem dX0_nextNumber_49 : decode cX0_nextNumber 49 = .ok (.iadd, 1) := by decide +kernel
theorem dX0_nextNumber_50 : decode cX0_nextNumber 50 = .ok (.putfield 18, 3) := by decide +kernel
theorem dX0_nextNumber_53 : decode cX0_nextNumber 53 = .ok (.aload_n 0, 1) := by decide +kernel
theorem dX0_nextNumber_54 : decode cX0_nextNumber 54 = .ok (.iload_n 1, 1) := by decide +kernel
theorem dX0_nextNumber_55 : decode cX0_nextNumber 55 = .ok (.invokevirtual 36, 3) := by decide +kernel
theorem dX0_nextNumber_58 : decode cX0_nextNumber 58 = .ok (.istore 4, 2) := by decide +kernel
theorem dX0_nextNumber_60 : decode cX0_nextNumber 60 = .ok (.iload 4, 2) := by decide +kernel
theorem dX0_nextNumber_62 : decode cX0_nextNumber 62 = .ok (.iconst (-1), 1) := by decide +kernel
theorem dX0_nextNumber_63 : decode cX0_nextNumber 63 = .ok (.if_icmp .ne 7, 3) := by decide +kernel
theorem dX0_nextNumber_66 : decode cX0_nextNumber 66 = .ok (.iconst (-1), 1) := by decide +kernel
theorem dX0_nextNumber_67 : decode cX0_nextNumber 67 = .ok (.goto 9, 3) := by decide +kernel
theorem dX0_nextNumber_70 : decode cX0_nextNumber 70 = .ok (.iload_n 3, 1) := by decide +kernel
theorem dX0_nextNumber_71 : decode cX0_nextNumber 71 = .ok (.iload_n 1, 1) := by decide +kernel
theorem dX0_nextNumber_72 : decode cX0_nextNumber 72 = .ok (.ishl, 1) := by decide +kernel
theorem dX0_nextNumber_73 : decode cX0_nextNumber 73 = .ok (.iload 4, 2) := by decide +kernel
theorem dX0_nextNumber_75 : decode cX0_nextNumber 75 = .ok (.iadd, 1) := by decide +kernel
theorem dX0_nextNumber_76 : decode cX0_nextNumber 76 = .ok (.ireturn, 1) := by decide +kernel
theorem dX1_init_0 : decode cX1_init 0 = .ok (.aload_n 0, 1) := by decide +kernel
theorem dX1_init_1 : decode cX1_init 1 = .ok (.invokespecial 1, 3) := by decide +kernel
theorem dX1_init_4 : decode cX1_init 4 = .ok (.aload_n 0, 1) := by decide +kernel
theorem dX1_init_5 : decode cX1_init 5 = .ok (.new 7, 3) := by decide +kernel
theorem dX1_init_8 : decode cX1_init 8 = .ok (.dup, 1) := by decide +kernel
theorem dX1_init_9 : decode cX1_init 9 = .ok (.invokespecial 9, 3) := by decide +kernel
theorem dX1_init_12 : decode cX1_init 12 = .ok (.putfield 10, 3) := by decide +kernel
theorem dX1_init_15 : decode cX1_init 15 = .ok (.return_, 1) := by decide +kernel
theorem dX1_restart_0 : decode cX1_restart 0 = .ok (.aload_n 0, 1) := by decide +kernel
theorem dX1_restart_1 : decode cX1_restart 1 = .ok (.getfield 10, 3) := by decide +kernel
theorem dX1_restart_4 : decode cX1_restart 4 = .ok (.invokevirtual 16, 3) := by decide +kernel
theorem dX1_restart_7 : decode cX1_restart 7 = .ok (.aload_n 0, 1) := by decide +kernel
theorem dX1_restart_8 : decode cX1_restart 8 = .ok (.iconst 0, 1) := by decide +kernel
theorem dX1_restart_9 : decode cX1_restart 9 = .ok (.putfield 19, 3) := by decide +kernel
theorem dX1_restart_12 : decode cX1_restart 12 = .ok (.aload_n 0, 1) := by decide +kernel
theorem dX1_restart_13 : decode cX1_restart 13 = .ok (.iconst 0, 1) := by decide +kernel
theorem dX1_restart_14 : decode cX1_restart 14 = .ok (.putfield 23, 3) := by decide +kernel
theorem dX1_restart_17 : decode cX1_restart 17 = .ok (.return_, 1) := by decide +kernel
theorem dX1_putBit_0 : decode cX1_putBit 0 = .ok (.aload_n 0, 1) := by decide +kernel
theorem dX1_putBit_1 : decode cX1_putBit 1 = .ok (.aload_n 0, 1) := by decide +kernel
theorem dX1_putBit_2 : decode cX1_putBit 2 = .ok (.getfield 19, 3) := by decide +kernel
theorem dX1_putBit_5 : decode cX1_putBit 5 = .ok (.iconst 2, 1) := by decide +kernel
theorem dX1_putBit_6 : decode cX1_putBit 6 = .ok (.imul, 1) := by decide +kernel
theorem dX1_putBit_7 : decode cX1_putBit 7 = .ok (.iload_n 1, 1) := by decide +kernel
theorem dX1_putBit_8 : decode cX1_putBit 8 = .ok (.iadd, 1) := by decide +kernel
theorem dX1_putBit_9 : decode cX1_putBit 9 = .ok (.putfield 19, 3) := by decide +kernel
theorem dX1_putBit_12 : decode cX1_putBit 12 = .ok (.aload_n 0, 1) := by decide +kernel
theorem dX1_putBit_13 : decode cX1_putBit 13 = .ok (.dup, 1) := by decide +kernel
theorem dX1_putBit_14 : decode cX1_putBit 14 = .ok (.getfield 23, 3) := by decide +kernel
theorem dX1_putBit_17 : decode cX1_putBit 17 = .ok (.iconst 1, 1) := by decide +kernel
theorem dX1_putBit_18 : decode cX1_putBit 18 = .ok (.iadd, 1) := by decide +kernel
theorem dX1_putBit_19 : decode cX1_putBit 19 = .ok (.putfield 23, 3) := by decide +kernel
theorem dX1_putBit_22 : decode cX1_putBit 22 = .ok (.aload_n 0, 1) := by decide +kernel
theorem dX1_putBit_23 : decode cX1_putBit 23 = .ok (.getfield 23, 3) := by decide +kernel
theorem dX1_putBit_26 : decode cX1_putBit 26 = .ok (.bipush 8, 2) := by decide +kernel
theorem dX1_putBit_28 : decode cX1_putBit 28 = .ok (.if_icmp .ne 25, 3) := by decide +kernel
theorem dX1_putBit_31 : decode cX1_putBit 31 = .ok (.aload_n 0, 1) := by decide +kernel
theorem dX1_putBit_32 : decode cX1_putBit 32 = .ok (.getfield 10, 3) := by decide +kernel
theorem dX1_putBit_35 : decode cX1_putBit 35 = .ok (.aload_n 0, 1) := by decide +kernel
theorem dX1_putBit_36 : decode cX1_putBit 36 = .ok (.getfield 19, 3) := by decide +kernel
theorem dX1_putBit_39 : decode cX1_putBit 39 = .ok (.invokevirtual 26, 3) := by decide +kernel
theorem dX1_putBit_42 : decode cX1_putBit 42 = .ok (.pop, 1) := by decide +kernel
theorem dX1_putBit_43 : decode cX1_putBit 43 = .ok (.aload_n 0, 1) := by decide +kernel
theorem dX1_putBit_44 : decode cX1_putBit 44 = .ok (.iconst 0, 1) := by decide +kernel
theorem dX1_putBit_45 : decode cX1_putBit 45 = .ok (.putfield 19, 3) := by decide +kernel
theorem dX1_putBit_48 : decode cX1_putBit 48 = .ok (.aload_n 0, 1) := by decide +kernel
theorem dX1_putBit_49 : decode cX1_putBit 49 = .ok (.iconst 0, 1) := by decide +kernel
theorem dX1_putBit_50 : decode cX1_putBit 50 = .ok (.putfield 23, 3) := by decide +kernel
theorem dX1_putBit_53 : decode cX1_putBit 53 = .ok (.return_, 1) := by decide +kernel
theorem dX1_putLowBits_0 : decode cX1_putLowBits 0 = .ok (.iload_n 1, 1) := by decide +kernel
theorem dX1_putLowBits_1 : decode cX1_putLowBits 1 = .ok (.iconst 1, 1) := by decide +kernel
theorem dX1_putLowBits_2 : decode cX1_putLowBits 2 = .ok (.isub, 1) := by decide +kernel
theorem dX1_putLowBits_3 : decode cX1_putLowBits 3 = .ok (.istore_n 3, 1) := by decide +kernel
theorem dX1_putLowBits_4 : decode cX1_putLowBits 4 = .ok (.iload_n 3, 1) := by decide +kernel
theorem dX1_putLowBits_5 : decode cX1_putLowBits 5 = .ok (.ifCond .lt 18, 3) := by decide +kernel
theorem dX1_putLowBits_8 : decode cX1_putLowBits 8 = .ok (.aload_n 0, 1) := by decide +kernel
theorem dX1_putLowBits_9 : decode cX1_putLowBits 9 = .ok (.iload_n 2, 1) := by decide +kernel
theorem dX1_putLowBits_10 : decode cX1_putLowBits 10 = .ok (.iload_n 3, 1) := by decide +kernel
theorem dX1_putLowBits_11 : decode cX1_putLowBits 11 = .ok (.ishr, 1) := by decide +kernel
theorem dX1_putLowBits_12 : decode cX1_putLowBits 12 = .ok (.iconst 1, 1) := by decide +kernel
theorem dX1_putLowBits_13 : decode cX1_putLowBits 13 = .ok (.iand, 1) := by decide +kernel
theorem dX1_putLowBits_14 : decode cX1_putLowBits 14 = .ok (.invokevirtual 30, 3) := by decide +kernel
theorem dX1_putLowBits_17 : decode cX1_putLowBits 17 = .ok (.iinc 3 (-1), 3) := by decide +kernel
theorem dX1_putLowBits_20 : decode cX1_putLowBits 20 = .ok (.goto (-16), 3) := by decide +kernel
theorem dX1_putLowBits_23 : decode cX1_putLowBits 23 = .ok (.return_, 1) := by decide +kernel
theorem dX1_putNumber_0 : decode cX1_putNumber 0 = .ok (.iload_n 2, 1) := by decide +kernel
theorem dX1_putNumber_1 : decode cX1_putNumber 1 = .ok (.iload_n 1, 1) := by decide +kernel
theorem dX1_putNumber_2 : decode cX1_putNumber 2 = .ok (.ishr, 1) := by decide +kernel
theorem dX1_putNumber_3 : decode cX1_putNumber 3 = .ok (.istore_n 3, 1) := by decide +kernel
theorem dX1_putNumber_4 : decode cX1_putNumber 4 = .ok (.iconst 0, 1) := by decide +kernel
theorem dX1_putNumber_5 : decode cX1_putNumber 5 = .ok (.istore 4, 2) := by decide +kernel
theorem dX1_putNumber_7 : decode cX1_putNumber 7 = .ok (.iload 4, 2) := by decide +kernel
theorem dX1_putNumber_9 : decode cX1_putNumber 9 = .ok (.iload_n 3, 1) := by decide +kernel
theorem dX1_putNumber_10 : decode cX1_putNumber 10 = .ok (.if_icmp .ge 14, 3) := by decide +kernel
theorem dX1_putNumber_13 : decode cX1_putNumber 13 = .ok (.aload_n 0, 1) := by decide +kernel
theorem dX1_putNumber_14 : decode cX1_putNumber 14 = .ok (.iconst 0, 1) := by decide +kernel
theorem dX1_putNumber_15 : decode cX1_putNumber 15 = .ok (.invokevirtual 30, 3) := by decide +kernel
theorem dX1_putNumber_18 : decode cX1_putNumber 18 = .ok (.iinc 4 1, 3) := by decide +kernel
theorem dX1_putNumber_21 : decode cX1_putNumber 21 = .ok (.goto (-14), 3) := by decide +kernel
theorem dX1_putNumber_24 : decode cX1_putNumber 24 = .ok (.aload_n 0, 1) := by decide +kernel
theorem dX1_putNumber_25 : decode cX1_putNumber 25 = .ok (.iconst 1, 1) := by decide +kernel
theorem dX1_putNumber_26 : decode cX1_putNumber 26 = .ok (.invokevirtual 30, 3) := by decide +kernel
theorem dX1_putNumber_29 : decode cX1_putNumber 29 = .ok (.aload_n 0, 1) := by decide +kernel
theorem dX1_putNumber_30 : decode cX1_putNumber 30 = .ok (.iload_n 1, 1) := by decide +kernel
theorem dX1_putNumber_31 : decode cX1_putNumber 31 = .ok (.iload_n 2, 1) := by decide +kernel
theorem dX1_putNumber_32 : decode cX1_putNumber 32 = .ok (.invokevirtual 34, 3) := by decide +kernel
theorem dX1_putNumber_35 : decode cX1_putNumber 35 = .ok (.return_, 1) := by decide +kernel
theorem dX1_fillByte_0 : decode cX1_fillByte 0 = .ok (.aload_n 0, 1) := by decide +kernel
theorem dX1_fillByte_1 : decode cX1_fillByte 1 = .ok (.getfield 23, 3) := by decide +kernel
theorem dX1_fillByte_4 : decode cX1_fillByte 4 = .ok (.ifCond .le 15, 3) := by decide +kernel
theorem dX1_fillByte_7 : decode cX1_fillByte 7 = .ok (.aload_n 0, 1) := by decide +kernel
theorem dX1_fillByte_8 : decode cX1_fillByte 8 = .ok (.bipush 8, 2) := by decide +kernel
theorem dX1_fillByte_10 : decode cX1_fillByte 10 = .ok (.aload_n 0, 1) := by decide +kernel
theorem dX1_fillByte_11 : decode cX1_fillByte 11 = .ok (.getfield 23, 3) := by decide +kernel
theorem dX1_fillByte_14 : decode cX1_fillByte 14 = .ok (.isub, 1) := by decide +kernel
theorem dX1_fillByte_15 : decode cX1_fillByte 15 = .ok (.iconst 0, 1) := by decide +kernel
theorem dX1_fillByte_16 : decode cX1_fillByte 16 = .ok (.invokevirtual 34, 3) := by decide +kernel
theorem dX1_fillByte_19 : decode cX1_fillByte 19 = .ok (.return_, 1) := by decide +kernel
theorem dX2_init_0 : decode cX2_init 0 = .ok (.aload_n 0, 1) := by decide +kernel
theorem dX2_init_1 : decode cX2_init 1 = .ok (.invokespecial 3, 3) := by decide +kernel
theorem dX2_init_4 : decode cX2_init 4 = .ok (.aload_n 0, 1) := by decide +kernel
theorem dX2_init_5 : decode cX2_init 5 = .ok (.sipush 3000, 3) := by decide +kernel
theorem dX2_init_8 : decode cX2_init 8 = .ok (.newarray .byte, 2) := by decide +kernel
theorem dX2_init_10 : decode cX2_init 10 = .ok (.putfield 9, 3) := by decide +kernel
theorem dX2_init_13 : decode cX2_init 13 = .ok (.return_, 1) := by decide +kernel
theorem dX2_clear_0 : decode cX2_clear 0 = .ok (.aload_n 0, 1) := by decide +kernel
theorem dX2_clear_1 : decode cX2_clear 1 = .ok (.iconst 0, 1) := by decide +kernel
theorem dX2_clear_2 : decode cX2_clear 2 = .ok (.putfield 15, 3) := by decide +kernel
theorem dX2_clear_5 : decode cX2_clear 5 = .ok (.return_, 1) := by decide +kernel
theorem dX2_append_0 : decode cX2_append 0 = .ok (.aload_n 0, 1) := by decide +kernel
theorem dX2_append_1 : decode cX2_append 1 = .ok (.getfield 15, 3) := by decide +kernel
theorem dX2_append_4 : decode cX2_append 4 = .ok (.sipush 3000, 3) := by decide +kernel
theorem dX2_append_7 : decode cX2_append 7 = .ok (.if_icmp .lt 5, 3) := by decide +kernel
theorem dX2_append_10 : decode cX2_append 10 = .ok (.iconst 0, 1) := by decide +kernel
theorem dX2_append_11 : decode cX2_append 11 = .ok (.ireturn, 1) := by decide +kernel
theorem dX2_append_12 : decode cX2_append 12 = .ok (.aload_n 0, 1) := by decide +kernel
theorem dX2_append_13 : decode cX2_append 13 = .ok (.getfield 9, 3) := by decide +kernel
theorem dX2_append_16 : decode cX2_append 16 = .ok (.aload_n 0, 1) := by decide +kernel
theorem dX2_append_17 : decode cX2_append 17 = .ok (.getfield 15, 3) := by decide +kernel
theorem dX2_append_20 : decode cX2_append 20 = .ok (.iload_n 1, 1) := by decide +kernel
theorem dX2_append_21 : decode cX2_append 21 = .ok (.i2b, 1) := by decide +kernel
theorem dX2_append_22 : decode cX2_append 22 = .ok (.bastore, 1) := by decide +kernel
theorem dX2_append_23 : decode cX2_append 23 = .ok (.aload_n 0, 1) := by decide +kernel
theorem dX2_append_24 : decode cX2_append 24 = .ok (.dup, 1) := by decide +kernel
theorem dX2_append_25 : decode cX2_append 25 = .ok (.getfield 15, 3) := by decide +kernel
theorem dX2_append_28 : decode cX2_append 28 = .ok (.iconst 1, 1) := by decide +kernel
theorem dX2_append_29 : decode cX2_append 29 = .ok (.iadd, 1) := by decide +kernel
theorem dX2_append_30 : decode cX2_append 30 = .ok (.putfield 15, 3) := by decide +kernel
theorem dX2_append_33 : decode cX2_append 33 = .ok (.iconst 1, 1) := by decide +kernel
theorem dX2_append_34 : decode cX2_append 34 = .ok (.ireturn, 1) := by decide +kernel
theorem dX2_byteAt_0 : decode cX2_byteAt 0 = .ok (.iload_n 1, 1) := by decide +kernel
theorem dX2_byteAt_1 : decode cX2_byteAt 1 = .ok (.ifCond .lt 11, 3) := by decide +kernel
theorem dX2_byteAt_4 : decode cX2_byteAt 4 = .ok (.iload_n 1, 1) := by decide +kernel
theorem dX2_byteAt_5 : decode cX2_byteAt 5 = .ok (.aload_n 0, 1) := by decide +kernel
theorem dX2_byteAt_6 : decode cX2_byteAt 6 = .ok (.getfield 15, 3) := by decide +kernel
theorem dX2_byteAt_9 : decode cX2_byteAt 9 = .ok (.if_icmp .lt 7, 3) := by decide +kernel
theorem dX2_byteAt_12 : decode cX2_byteAt 12 = .ok (.iconst (-1), 1) := by decide +kernel
theorem dX2_byteAt_13 : decode cX2_byteAt 13 = .ok (.goto 13, 3) := by decide +kernel
theorem dX2_byteAt_16 : decode cX2_byteAt 16 = .ok (.aload_n 0, 1) := by decide +kernel
theorem dX2_byteAt_17 : decode cX2_byteAt 17 = .ok (.getfield 9, 3) := by decide +kernel
theorem dX2_byteAt_20 : decode cX2_byteAt 20 = .ok (.iload_n 1, 1) := by decide +kernel
theorem dX2_byteAt_21 : decode cX2_byteAt 21 = .ok (.baload, 1) := by decide +kernel
theorem dX2_byteAt_22 : decode cX2_byteAt 22 = .ok (.sipush 255, 3) := by decide +kernel
theorem dX2_byteAt_25 : decode cX2_byteAt 25 = .ok (.iand, 1) := by decide +kernel
theorem dX2_byteAt_26 : decode cX2_byteAt 26 = .ok (.ireturn, 1) := by decide +kernel
theorem dX2_copy_0 : decode cX2_copy 0 = .ok (.aload_n 0, 1) := by decide +kernel
theorem dX2_copy_1 : decode cX2_copy 1 = .ok (.aload_n 1, 1) := by decide +kernel
theorem dX2_copy_2 : decode cX2_copy 2 = .ok (.getfield 15, 3) := by decide +kernel
theorem dX2_copy_5 : decode cX2_copy 5 = .ok (.putfield 15, 3) := by decide +kernel
theorem dX2_copy_8 : decode cX2_copy 8 = .ok (.aload_n 1, 1) := by decide +kernel
theorem dX2_copy_9 : decode cX2_copy 9 = .ok (.getfield 9, 3) := by decide +kernel
theorem dX2_copy_12 : decode cX2_copy 12 = .ok (.iconst 0, 1) := by decide +kernel
theorem dX2_copy_13 : decode cX2_copy 13 = .ok (.aload_n 0, 1) := by decide +kernel
theorem dX2_copy_14 : decode cX2_copy 14 = .ok (.getfield 9, 3) := by decide +kernel
theorem dX2_copy_17 : decode cX2_copy 17 = .ok (.iconst 0, 1) := by decide +kernel
theorem dX2_copy_18 : decode cX2_copy 18 = .ok (.aload_n 0, 1) := by decide +kernel
theorem dX2_copy_19 : decode cX2_copy 19 = .ok (.getfield 15, 3) := by decide +kernel
theorem dX2_copy_22 : decode cX2_copy 22 = .ok (.invokestatic 19, 3) := by decide +kernel
theorem dX2_copy_25 : decode cX2_copy 25 = .ok (.return_, 1) := by decide +kernel
theorem dX3_init_0 : decode cX3_init 0 = .ok (.aload_n 0, 1) := by decide +kernel
theorem dX3_init_1 : decode cX3_init 1 = .ok (.invokespecial 3, 3) := by decide +kernel
theorem dX3_init_4 : decode cX3_init 4 = .ok (.aload_n 0, 1) := by decide +kernel
theorem dX3_init_5 : decode cX3_init 5 = .ok (.sipush 800, 3) := by decide +kernel
theorem dX3_init_8 : decode cX3_init 8 = .ok (.newarray .int, 2) := by decide +kernel
theorem dX3_init_10 : decode cX3_init 10 = .ok (.putfield 9, 3) := by decide +kernel
theorem dX3_init_13 : decode cX3_init 13 = .ok (.return_, 1) := by decide +kernel
theorem dX3_ahead_0 : decode cX3_ahead 0 = .ok (.iconst 0, 1) := by decide +kernel
theorem dX3_ahead_1 : decode cX3_ahead 1 = .ok (.istore_n 3, 1) := by decide +kernel
theorem dX3_ahead_2 : decode cX3_ahead 2 = .ok (.iconst 1, 1) := by decide +kernel
theorem dX3_ahead_3 : decode cX3_ahead 3 = .ok (.istore 4, 2) := by decide +kernel
theorem dX3_ahead_5 : decode cX3_ahead 5 = .ok (.iload 4, 2) := by decide +kernel
theorem dX3_ahead_7 : decode cX3_ahead 7 = .ok (.iconst 4, 1) := by decide +kernel
theorem dX3_ahead_8 : decode cX3_ahead 8 = .ok (.if_icmp .gt 44, 3) := by decide +kernel
theorem dX3_ahead_11 : decode cX3_ahead 11 = .ok (.iload_n 1, 1) := by decide +kernel
theorem dX3_ahead_12 : decode cX3_ahead 12 = .ok (.iload 4, 2) := by decide +kernel
theorem dX3_ahead_14 : decode cX3_ahead 14 = .ok (.iload_n 2, 1) := by decide +kernel
theorem dX3_ahead_15 : decode cX3_ahead 15 = .ok (.imul, 1) := by decide +kernel
theorem dX3_ahead_16 : decode cX3_ahead 16 = .ok (.isub, 1) := by decide +kernel
theorem dX3_ahead_17 : decode cX3_ahead 17 = .ok (.istore 5, 2) := by decide +kernel
theorem dX3_ahead_19 : decode cX3_ahead 19 = .ok (.iload_n 3, 1) := by decide +kernel
theorem dX3_ahead_20 : decode cX3_ahead 20 = .ok (.iload 5, 2) := by decide +kernel
theorem dX3_ahead_22 : decode cX3_ahead 22 = .ok (.ifCond .lt 11, 3) := by decide +kernel
theorem dX3_ahead_25 : decode cX3_ahead 25 = .ok (.iload 5, 2) := by decide +kernel
theorem dX3_ahead_27 : decode cX3_ahead 27 = .ok (.sipush 800, 3) := by decide +kernel
theorem dX3_ahead_30 : decode cX3_ahead 30 = .ok (.if_icmp .lt 7, 3) := by decide +kernel
theorem dX3_ahead_33 : decode cX3_ahead 33 = .ok (.iconst 0, 1) := by decide +kernel
theorem dX3_ahead_34 : decode cX3_ahead 34 = .ok (.goto 10, 3) := by decide +kernel
theorem dX3_ahead_37 : decode cX3_ahead 37 = .ok (.aload_n 0, 1) := by decide +kernel
theorem dX3_ahead_38 : decode cX3_ahead 38 = .ok (.getfield 9, 3) := by decide +kernel
theorem dX3_ahead_41 : decode cX3_ahead 41 = .ok (.iload 5, 2) := by decide +kernel
theorem dX3_ahead_43 : decode cX3_ahead 43 = .ok (.iaload, 1) := by decide +kernel
theorem dX3_ahead_44 : decode cX3_ahead 44 = .ok (.iadd, 1) := by decide +kernel
theorem dX3_ahead_45 : decode cX3_ahead 45 = .ok (.istore_n 3, 1) := by decide +kernel
theorem dX3_ahead_46 : decode cX3_ahead 46 = .ok (.iinc 4 1, 3) := by decide +kernel
theorem dX3_ahead_49 : decode cX3_ahead 49 = .ok (.goto (-44), 3) := by decide +kernel
theorem dX3_ahead_52 : decode cX3_ahead 52 = .ok (.iload_n 3, 1) := by decide +kernel
theorem dX3_ahead_53 : decode cX3_ahead 53 = .ok (.iconst 4, 1) := by decide +kernel
theorem dX3_ahead_54 : decode cX3_ahead 54 = .ok (.invokestatic 15, 3) := by decide +kernel
theorem dX3_ahead_57 : decode cX3_ahead 57 = .ok (.ireturn, 1) := by decide +kernel
theorem dX3_settle_0 : decode cX3_settle 0 = .ok (.aload_n 2, 1) := by decide +kernel
theorem dX3_settle_1 : decode cX3_settle 1 = .ok (.iload_n 1, 1) := by decide +kernel
theorem dX3_settle_2 : decode cX3_settle 2 = .ok (.invokevirtual 19, 3) := by decide +kernel
theorem dX3_settle_5 : decode cX3_settle 5 = .ok (.istore_n 3, 1) := by decide +kernel
theorem dX3_settle_6 : decode cX3_settle 6 = .ok (.aload_n 2, 1) := by decide +kernel
theorem dX3_settle_7 : decode cX3_settle 7 = .ok (.iload_n 1, 1) := by decide +kernel
theorem dX3_settle_8 : decode cX3_settle 8 = .ok (.invokevirtual 25, 3) := by decide +kernel
theorem dX3_settle_11 : decode cX3_settle 11 = .ok (.istore 4, 2) := by decide +kernel
theorem dX3_settle_13 : decode cX3_settle 13 = .ok (.iconst 0, 1) := by decide +kernel
theorem dX3_settle_14 : decode cX3_settle 14 = .ok (.istore 5, 2) := by decide +kernel
theorem dX3_settle_16 : decode cX3_settle 16 = .ok (.iconst 0, 1) := by decide +kernel
theorem dX3_settle_17 : decode cX3_settle 17 = .ok (.istore 6, 2) := by decide +kernel
theorem dX3_settle_19 : decode cX3_settle 19 = .ok (.iload 6, 2) := by decide +kernel
theorem dX3_settle_21 : decode cX3_settle 21 = .ok (.iload_n 3, 1) := by decide +kernel
theorem dX3_settle_22 : decode cX3_settle 22 = .ok (.if_icmp .ge 28, 3) := by decide +kernel
theorem dX3_settle_25 : decode cX3_settle 25 = .ok (.iload 5, 2) := by decide +kernel
theorem dX3_settle_27 : decode cX3_settle 27 = .ok (.aload_n 2, 1) := by decide +kernel
theorem dX3_settle_28 : decode cX3_settle 28 = .ok (.iload 4, 2) := by decide +kernel
theorem dX3_settle_30 : decode cX3_settle 30 = .ok (.iload 6, 2) := by decide +kernel
theorem dX3_settle_32 : decode cX3_settle 32 = .ok (.aload_n 2, 1) := by decide +kernel
theorem dX3_settle_33 : decode cX3_settle 33 = .ok (.getfield 28, 3) := by decide +kernel
theorem dX3_settle_36 : decode cX3_settle 36 = .ok (.imul, 1) := by decide +kernel
theorem dX3_settle_37 : decode cX3_settle 37 = .ok (.iadd, 1) := by decide +kernel
theorem dX3_settle_38 : decode cX3_settle 38 = .ok (.invokevirtual 32, 3) := by decide +kernel
theorem dX3_settle_41 : decode cX3_settle 41 = .ok (.iadd, 1) := by decide +kernel
theorem dX3_settle_42 : decode cX3_settle 42 = .ok (.istore 5, 2) := by decide +kernel
theorem dX3_settle_44 : decode cX3_settle 44 = .ok (.iinc 6 1, 3) := by decide +kernel
theorem dX3_settle_47 : decode cX3_settle 47 = .ok (.goto (-28), 3) := by decide +kernel
theorem dX3_settle_50 : decode cX3_settle 50 = .ok (.iload_n 1, 1) := by decide +kernel
theorem dX3_settle_51 : decode cX3_settle 51 = .ok (.ifCond .lt 22, 3) := by decide +kernel
theorem dX3_settle_54 : decode cX3_settle 54 = .ok (.iload_n 1, 1) := by decide +kernel
theorem dX3_settle_55 : decode cX3_settle 55 = .ok (.sipush 800, 3) := by decide +kernel
theorem dX3_settle_58 : decode cX3_settle 58 = .ok (.if_icmp .ge 15, 3) := by decide +kernel
theorem dX3_settle_61 : decode cX3_settle 61 = .ok (.aload_n 0, 1) := by decide +kernel
theorem dX3_settle_62 : decode cX3_settle 62 = .ok (.getfield 9, 3) := by decide +kernel
theorem dX3_settle_65 : decode cX3_settle 65 = .ok (.iload_n 1, 1) := by decide +kernel
theorem dX3_settle_66 : decode cX3_settle 66 = .ok (.iload 5, 2) := by decide +kernel
theorem dX3_settle_68 : decode cX3_settle 68 = .ok (.iload_n 3, 1) := by decide +kernel
theorem dX3_settle_69 : decode cX3_settle 69 = .ok (.invokestatic 15, 3) := by decide +kernel
theorem dX3_settle_72 : decode cX3_settle 72 = .ok (.iastore, 1) := by decide +kernel
theorem dX3_settle_73 : decode cX3_settle 73 = .ok (.return_, 1) := by decide +kernel
theorem dX4_init_0 : decode cX4_init 0 = .ok (.aload_n 0, 1) := by decide +kernel
theorem dX4_init_1 : decode cX4_init 1 = .ok (.invokespecial 3, 3) := by decide +kernel
theorem dX4_init_4 : decode cX4_init 4 = .ok (.aload_n 0, 1) := by decide +kernel
theorem dX4_init_5 : decode cX4_init 5 = .ok (.sipush 800, 3) := by decide +kernel
theorem dX4_init_8 : decode cX4_init 8 = .ok (.newarray .int, 2) := by decide +kernel
theorem dX4_init_10 : decode cX4_init 10 = .ok (.putfield 9, 3) := by decide +kernel
theorem dX4_init_13 : decode cX4_init 13 = .ok (.aload_n 0, 1) := by decide +kernel
theorem dX4_init_14 : decode cX4_init 14 = .ok (.iload_n 1, 1) := by decide +kernel
theorem dX4_init_15 : decode cX4_init 15 = .ok (.putfield 15, 3) := by decide +kernel
theorem dX4_init_18 : decode cX4_init 18 = .ok (.aload_n 0, 1) := by decide +kernel
theorem dX4_init_19 : decode cX4_init 19 = .ok (.iload_n 2, 1) := by decide +kernel
theorem dX4_init_20 : decode cX4_init 20 = .ok (.putfield 19, 3) := by decide +kernel
theorem dX4_init_23 : decode cX4_init 23 = .ok (.return_, 1) := by decide +kernel
theorem dX4_restart_0 : decode cX4_restart 0 = .ok (.aload_n 0, 1) := by decide +kernel
theorem dX4_restart_1 : decode cX4_restart 1 = .ok (.iload_n 1, 1) := by decide +kernel
theorem dX4_restart_2 : decode cX4_restart 2 = .ok (.putfield 15, 3) := by decide +kernel
theorem dX4_restart_5 : decode cX4_restart 5 = .ok (.aload_n 0, 1) := by decide +kernel
theorem dX4_restart_6 : decode cX4_restart 6 = .ok (.iload_n 2, 1) := by decide +kernel
theorem dX4_restart_7 : decode cX4_restart 7 = .ok (.putfield 19, 3) := by decide +kernel
theorem dX4_restart_10 : decode cX4_restart 10 = .ok (.aload_n 0, 1) := by decide +kernel
theorem dX4_restart_11 : decode cX4_restart 11 = .ok (.iconst 0, 1) := by decide +kernel
theorem dX4_restart_12 : decode cX4_restart 12 = .ok (.putfield 22, 3) := by decide +kernel
theorem dX4_restart_15 : decode cX4_restart 15 = .ok (.return_, 1) := by decide +kernel
theorem dX4_lay_0 : decode cX4_lay 0 = .ok (.aload_n 0, 1) := by decide +kernel
theorem dX4_lay_1 : decode cX4_lay 1 = .ok (.iload_n 1, 1) := by decide +kernel
theorem dX4_lay_2 : decode cX4_lay 2 = .ok (.iload_n 2, 1) := by decide +kernel
theorem dX4_lay_3 : decode cX4_lay 3 = .ok (.invokevirtual 25, 3) := by decide +kernel
theorem dX4_lay_6 : decode cX4_lay 6 = .ok (.aload_n 0, 1) := by decide +kernel
theorem dX4_lay_7 : decode cX4_lay 7 = .ok (.iload_n 3, 1) := by decide +kernel
theorem dX4_lay_8 : decode cX4_lay 8 = .ok (.iload_n 1, 1) := by decide +kernel
theorem dX4_lay_9 : decode cX4_lay 9 = .ok (.imul, 1) := by decide +kernel
theorem dX4_lay_10 : decode cX4_lay 10 = .ok (.sipush 800, 3) := by decide +kernel
theorem dX4_lay_13 : decode cX4_lay 13 = .ok (.invokestatic 29, 3) := by decide +kernel
theorem dX4_lay_16 : decode cX4_lay 16 = .ok (.putfield 22, 3) := by decide +kernel
theorem dX4_lay_19 : decode cX4_lay 19 = .ok (.return_, 1) := by decide +kernel
theorem dX4_append_0 : decode cX4_append 0 = .ok (.aload_n 0, 1) := by decide +kernel
theorem dX4_append_1 : decode cX4_append 1 = .ok (.getfield 22, 3) := by decide +kernel
theorem dX4_append_4 : decode cX4_append 4 = .ok (.aload_n 0, 1) := by decide +kernel
theorem dX4_append_5 : decode cX4_append 5 = .ok (.getfield 15, 3) := by decide +kernel
theorem dX4_append_8 : decode cX4_append 8 = .ok (.sipush 400, 3) := by decide +kernel
theorem dX4_append_11 : decode cX4_append 11 = .ok (.imul, 1) := by decide +kernel
theorem dX4_append_12 : decode cX4_append 12 = .ok (.if_icmp .ge 13, 3) := by decide +kernel
theorem dX4_append_15 : decode cX4_append 15 = .ok (.aload_n 0, 1) := by decide +kernel
theorem dX4_append_16 : decode cX4_append 16 = .ok (.getfield 22, 3) := by decide +kernel
theorem dX4_append_19 : decode cX4_append 19 = .ok (.sipush 800, 3) := by decide +kernel
theorem dX4_append_22 : decode cX4_append 22 = .ok (.if_icmp .lt 5, 3) := by decide +kernel
theorem dX4_append_25 : decode cX4_append 25 = .ok (.iconst 0, 1) := by decide +kernel
theorem dX4_append_26 : decode cX4_append 26 = .ok (.ireturn, 1) := by decide +kernel
theorem dX4_append_27 : decode cX4_append 27 = .ok (.aload_n 0, 1) := by decide +kernel
theorem dX4_append_28 : decode cX4_append 28 = .ok (.getfield 9, 3) := by decide +kernel
theorem dX4_append_31 : decode cX4_append 31 = .ok (.aload_n 0, 1) := by decide +kernel
theorem dX4_append_32 : decode cX4_append 32 = .ok (.getfield 22, 3) := by decide +kernel
theorem dX4_append_35 : decode cX4_append 35 = .ok (.iload_n 1, 1) := by decide +kernel
theorem dX4_append_36 : decode cX4_append 36 = .ok (.iastore, 1) := by decide +kernel
theorem dX4_append_37 : decode cX4_append 37 = .ok (.aload_n 0, 1) := by decide +kernel
theorem dX4_append_38 : decode cX4_append 38 = .ok (.dup, 1) := by decide +kernel
theorem dX4_append_39 : decode cX4_append 39 = .ok (.getfield 22, 3) := by decide +kernel
theorem dX4_append_42 : decode cX4_append 42 = .ok (.iconst 1, 1) := by decide +kernel
theorem dX4_append_43 : decode cX4_append 43 = .ok (.iadd, 1) := by decide +kernel
theorem dX4_append_44 : decode cX4_append 44 = .ok (.putfield 22, 3) := by decide +kernel
theorem dX4_append_47 : decode cX4_append 47 = .ok (.iconst 1, 1) := by decide +kernel
theorem dX4_append_48 : decode cX4_append 48 = .ok (.ireturn, 1) := by decide +kernel
theorem dX4_copyWhole_0 : decode cX4_copyWhole 0 = .ok (.aload_n 0, 1) := by decide +kernel
theorem dX4_copyWhole_1 : decode cX4_copyWhole 1 = .ok (.aload_n 1, 1) := by decide +kernel
theorem dX4_copyWhole_2 : decode cX4_copyWhole 2 = .ok (.getfield 15, 3) := by decide +kernel
theorem dX4_copyWhole_5 : decode cX4_copyWhole 5 = .ok (.aload_n 1, 1) := by decide +kernel
theorem dX4_copyWhole_6 : decode cX4_copyWhole 6 = .ok (.getfield 19, 3) := by decide +kernel
theorem dX4_copyWhole_9 : decode cX4_copyWhole 9 = .ok (.invokevirtual 25, 3) := by decide +kernel
theorem dX4_copyWhole_12 : decode cX4_copyWhole 12 = .ok (.aload_n 0, 1) := by decide +kernel
theorem dX4_copyWhole_13 : decode cX4_copyWhole 13 = .ok (.aload_n 1, 1) := by decide +kernel
theorem dX4_copyWhole_14 : decode cX4_copyWhole 14 = .ok (.invokevirtual 35, 3) := by decide +kernel
theorem dX4_copyWhole_17 : decode cX4_copyWhole 17 = .ok (.putfield 22, 3) := by decide +kernel
theorem dX4_copyWhole_20 : decode cX4_copyWhole 20 = .ok (.aload_n 1, 1) := by decide +kernel
theorem dX4_copyWhole_21 : decode cX4_copyWhole 21 = .ok (.getfield 9, 3) := by decide +kernel
theorem dX4_copyWhole_24 : decode cX4_copyWhole 24 = .ok (.iconst 0, 1) := by decide +kernel
theorem dX4_copyWhole_25 : decode cX4_copyWhole 25 = .ok (.aload_n 0, 1) := by decide +kernel
theorem dX4_copyWhole_26 : decode cX4_copyWhole 26 = .ok (.getfield 9, 3) := by decide +kernel
theorem dX4_copyWhole_29 : decode cX4_copyWhole 29 = .ok (.iconst 0, 1) := by decide +kernel
theorem dX4_copyWhole_30 : decode cX4_copyWhole 30 = .ok (.aload_n 0, 1) := by decide +kernel
theorem dX4_copyWhole_31 : decode cX4_copyWhole 31 = .ok (.getfield 22, 3) := by decide +kernel
theorem dX4_copyWhole_34 : decode cX4_copyWhole 34 = .ok (.invokestatic 39, 3) := by decide +kernel
theorem dX4_copyWhole_37 : decode cX4_copyWhole 37 = .ok (.return_, 1) := by decide +kernel
theorem dX4_each_0 : decode cX4_each 0 = .ok (.aload_n 0, 1) := by decide +kernel
theorem dX4_each_1 : decode cX4_each 1 = .ok (.getfield 15, 3) := by decide +kernel
theorem dX4_each_4 : decode cX4_each 4 = .ok (.iconst 1, 1) := by decide +kernel
theorem dX4_each_5 : decode cX4_each 5 = .ok (.if_icmp .ge 7, 3) := by decide +kernel
theorem dX4_each_8 : decode cX4_each 8 = .ok (.iconst 0, 1) := by decide +kernel
theorem dX4_each_9 : decode cX4_each 9 = .ok (.goto 12, 3) := by decide +kernel
theorem dX4_each_12 : decode cX4_each 12 = .ok (.aload_n 0, 1) := by decide +kernel
theorem dX4_each_13 : decode cX4_each 13 = .ok (.getfield 22, 3) := by decide +kernel
theorem dX4_each_16 : decode cX4_each 16 = .ok (.aload_n 0, 1) := by decide +kernel
theorem dX4_each_17 : decode cX4_each 17 = .ok (.getfield 15, 3) := by decide +kernel
theorem dX4_each_20 : decode cX4_each 20 = .ok (.idiv, 1) := by decide +kernel
theorem dX4_each_21 : decode cX4_each 21 = .ok (.ireturn, 1) := by decide +kernel
theorem dX4_wholeSize_0 : decode cX4_wholeSize 0 = .ok (.aload_n 0, 1) := by decide +kernel
theorem dX4_wholeSize_1 : decode cX4_wholeSize 1 = .ok (.invokevirtual 45, 3) := by decide +kernel
theorem dX4_wholeSize_4 : decode cX4_wholeSize 4 = .ok (.aload_n 0, 1) := by decide +kernel
theorem dX4_wholeSize_5 : decode cX4_wholeSize 5 = .ok (.getfield 15, 3) := by decide +kernel
theorem dX4_wholeSize_8 : decode cX4_wholeSize 8 = .ok (.imul, 1) := by decide +kernel
theorem dX4_wholeSize_9 : decode cX4_wholeSize 9 = .ok (.ireturn, 1) := by decide +kernel
theorem dX4_hasSameWhole_0 : decode cX4_hasSameWhole 0 = .ok (.aload_n 0, 1) := by decide +kernel
theorem dX4_hasSameWhole_1 : decode cX4_hasSameWhole 1 = .ok (.getfield 15, 3) := by decide +kernel
theorem dX4_hasSameWhole_4 : decode cX4_hasSameWhole 4 = .ok (.aload_n 1, 1) := by decide +kernel
theorem dX4_hasSameWhole_5 : decode cX4_hasSameWhole 5 = .ok (.getfield 15, 3) := by decide +kernel
theorem dX4_hasSameWhole_8 : decode cX4_hasSameWhole 8 = .ok (.if_icmp .ne 14, 3) := by decide +kernel
theorem dX4_hasSameWhole_11 : decode cX4_hasSameWhole 11 = .ok (.aload_n 0, 1) := by decide +kernel
theorem dX4_hasSameWhole_12 : decode cX4_hasSameWhole 12 = .ok (.invokevirtual 35, 3) := by decide +kernel
theorem dX4_hasSameWhole_15 : decode cX4_hasSameWhole 15 = .ok (.aload_n 1, 1) := by decide +kernel
theorem dX4_hasSameWhole_16 : decode cX4_hasSameWhole 16 = .ok (.getfield 22, 3) := by decide +kernel
theorem dX4_hasSameWhole_19 : decode cX4_hasSameWhole 19 = .ok (.if_icmp .eq 5, 3) := by decide +kernel
theorem dX4_hasSameWhole_22 : decode cX4_hasSameWhole 22 = .ok (.iconst 0, 1) := by decide +kernel
theorem dX4_hasSameWhole_23 : decode cX4_hasSameWhole 23 = .ok (.ireturn, 1) := by decide +kernel
theorem dX4_hasSameWhole_24 : decode cX4_hasSameWhole 24 = .ok (.iconst 0, 1) := by decide +kernel
theorem dX4_hasSameWhole_25 : decode cX4_hasSameWhole 25 = .ok (.istore_n 2, 1) := by decide +kernel
theorem dX4_hasSameWhole_26 : decode cX4_hasSameWhole 26 = .ok (.iload_n 2, 1) := by decide +kernel
theorem dX4_hasSameWhole_27 : decode cX4_hasSameWhole 27 = .ok (.aload_n 1, 1) := by decide +kernel
theorem dX4_hasSameWhole_28 : decode cX4_hasSameWhole 28 = .ok (.getfield 22, 3) := by decide +kernel
theorem dX4_hasSameWhole_31 : decode cX4_hasSameWhole 31 = .ok (.if_icmp .ge 26, 3) := by decide +kernel
theorem dX4_hasSameWhole_34 : decode cX4_hasSameWhole 34 = .ok (.aload_n 0, 1) := by decide +kernel
theorem dX4_hasSameWhole_35 : decode cX4_hasSameWhole 35 = .ok (.getfield 9, 3) := by decide +kernel
theorem dX4_hasSameWhole_38 : decode cX4_hasSameWhole 38 = .ok (.iload_n 2, 1) := by decide +kernel
theorem dX4_hasSameWhole_39 : decode cX4_hasSameWhole 39 = .ok (.iaload, 1) := by decide +kernel
theorem dX4_hasSameWhole_40 : decode cX4_hasSameWhole 40 = .ok (.aload_n 1, 1) := by decide +kernel
theorem dX4_hasSameWhole_41 : decode cX4_hasSameWhole 41 = .ok (.getfield 9, 3) := by decide +kernel
theorem dX4_hasSameWhole_44 : decode cX4_hasSameWhole 44 = .ok (.iload_n 2, 1) := by decide +kernel
theorem dX4_hasSameWhole_45 : decode cX4_hasSameWhole 45 = .ok (.iaload, 1) := by decide +kernel
theorem dX4_hasSameWhole_46 : decode cX4_hasSameWhole 46 = .ok (.if_icmp .eq 5, 3) := by decide +kernel
theorem dX4_hasSameWhole_49 : decode cX4_hasSameWhole 49 = .ok (.iconst 0, 1) := by decide +kernel
theorem dX4_hasSameWhole_50 : decode cX4_hasSameWhole 50 = .ok (.ireturn, 1) := by decide +kernel
theorem dX4_hasSameWhole_51 : decode cX4_hasSameWhole 51 = .ok (.iinc 2 1, 3) := by decide +kernel
theorem dX4_hasSameWhole_54 : decode cX4_hasSameWhole 54 = .ok (.goto (-28), 3) := by decide +kernel
theorem dX4_hasSameWhole_57 : decode cX4_hasSameWhole 57 = .ok (.iconst 1, 1) := by decide +kernel
theorem dX4_hasSameWhole_58 : decode cX4_hasSameWhole 58 = .ok (.ireturn, 1) := by decide +kernel
theorem dX4_blockCount_0 : decode cX4_blockCount 0 = .ok (.aload_n 0, 1) := by decide +kernel
theorem dX4_blockCount_1 : decode cX4_blockCount 1 = .ok (.getfield 19, 3) := by decide +kernel
theorem dX4_blockCount_4 : decode cX4_blockCount 4 = .ok (.iconst 1, 1) := by decide +kernel
theorem dX4_blockCount_5 : decode cX4_blockCount 5 = .ok (.if_icmp .ge 7, 3) := by decide +kernel
theorem dX4_blockCount_8 : decode cX4_blockCount 8 = .ok (.iconst 0, 1) := by decide +kernel
theorem dX4_blockCount_9 : decode cX4_blockCount 9 = .ok (.goto 24, 3) := by decide +kernel
theorem dX4_blockCount_12 : decode cX4_blockCount 12 = .ok (.aload_n 0, 1) := by decide +kernel
theorem dX4_blockCount_13 : decode cX4_blockCount 13 = .ok (.invokevirtual 45, 3) := by decide +kernel
theorem dX4_blockCount_16 : decode cX4_blockCount 16 = .ok (.aload_n 0, 1) := by decide +kernel
theorem dX4_blockCount_17 : decode cX4_blockCount 17 = .ok (.getfield 19, 3) := by decide +kernel
theorem dX4_blockCount_20 : decode cX4_blockCount 20 = .ok (.iadd, 1) := by decide +kernel
theorem dX4_blockCount_21 : decode cX4_blockCount 21 = .ok (.iconst 1, 1) := by decide +kernel
theorem dX4_blockCount_22 : decode cX4_blockCount 22 = .ok (.isub, 1) := by decide +kernel
theorem dX4_blockCount_23 : decode cX4_blockCount 23 = .ok (.aload_n 0, 1) := by decide +kernel
theorem dX4_blockCount_24 : decode cX4_blockCount 24 = .ok (.getfield 19, 3) := by decide +kernel
theorem dX4_blockCount_27 : decode cX4_blockCount 27 = .ok (.idiv, 1) := by decide +kernel
theorem dX4_blockCount_28 : decode cX4_blockCount 28 = .ok (.aload_n 0, 1) := by decide +kernel
theorem dX4_blockCount_29 : decode cX4_blockCount 29 = .ok (.getfield 15, 3) := by decide +kernel
theorem dX4_blockCount_32 : decode cX4_blockCount 32 = .ok (.imul, 1) := by decide +kernel
theorem dX4_blockCount_33 : decode cX4_blockCount 33 = .ok (.ireturn, 1) := by decide +kernel
theorem dX4_channelOf_0 : decode cX4_channelOf 0 = .ok (.aload_n 0, 1) := by decide +kernel
theorem dX4_channelOf_1 : decode cX4_channelOf 1 = .ok (.getfield 15, 3) := by decide +kernel
theorem dX4_channelOf_4 : decode cX4_channelOf 4 = .ok (.iconst 1, 1) := by decide +kernel
theorem dX4_channelOf_5 : decode cX4_channelOf 5 = .ok (.if_icmp .ge 7, 3) := by decide +kernel
theorem dX4_channelOf_8 : decode cX4_channelOf 8 = .ok (.iconst 0, 1) := by decide +kernel
theorem dX4_channelOf_9 : decode cX4_channelOf 9 = .ok (.goto 9, 3) := by decide +kernel
theorem dX4_channelOf_12 : decode cX4_channelOf 12 = .ok (.iload_n 1, 1) := by decide +kernel
theorem dX4_channelOf_13 : decode cX4_channelOf 13 = .ok (.aload_n 0, 1) := by decide +kernel
theorem dX4_channelOf_14 : decode cX4_channelOf 14 = .ok (.getfield 15, 3) := by decide +kernel
theorem dX4_channelOf_17 : decode cX4_channelOf 17 = .ok (.irem, 1) := by decide +kernel
theorem dX4_channelOf_18 : decode cX4_channelOf 18 = .ok (.ireturn, 1) := by decide +kernel
theorem dX4_samplesBefore_0 : decode cX4_samplesBefore 0 = .ok (.aload_n 0, 1) := by decide +kernel
theorem dX4_samplesBefore_1 : decode cX4_samplesBefore 1 = .ok (.getfield 15, 3) := by decide +kernel
theorem dX4_samplesBefore_4 : decode cX4_samplesBefore 4 = .ok (.iconst 1, 1) := by decide +kernel
theorem dX4_samplesBefore_5 : decode cX4_samplesBefore 5 = .ok (.if_icmp .ge 7, 3) := by decide +kernel
theorem dX4_samplesBefore_8 : decode cX4_samplesBefore 8 = .ok (.iconst 0, 1) := by decide +kernel
theorem dX4_samplesBefore_9 : decode cX4_samplesBefore 9 = .ok (.goto 14, 3) := by decide +kernel
theorem dX4_samplesBefore_12 : decode cX4_samplesBefore 12 = .ok (.iload_n 1, 1) := by decide +kernel
theorem dX4_samplesBefore_13 : decode cX4_samplesBefore 13 = .ok (.aload_n 0, 1) := by decide +kernel
theorem dX4_samplesBefore_14 : decode cX4_samplesBefore 14 = .ok (.getfield 15, 3) := by decide +kernel
theorem dX4_samplesBefore_17 : decode cX4_samplesBefore 17 = .ok (.idiv, 1) := by decide +kernel
theorem dX4_samplesBefore_18 : decode cX4_samplesBefore 18 = .ok (.aload_n 0, 1) := by decide +kernel
theorem dX4_samplesBefore_19 : decode cX4_samplesBefore 19 = .ok (.getfield 19, 3) := by decide +kernel
theorem dX4_samplesBefore_22 : decode cX4_samplesBefore 22 = .ok (.imul, 1) := by decide +kernel
theorem dX4_samplesBefore_23 : decode cX4_samplesBefore 23 = .ok (.ireturn, 1) := by decide +kernel
theorem dX4_firstPlace_0 : decode cX4_firstPlace 0 = .ok (.aload_n 0, 1) := by decide +kernel
theorem dX4_firstPlace_1 : decode cX4_firstPlace 1 = .ok (.iload_n 1, 1) := by decide +kernel
theorem dX4_firstPlace_2 : decode cX4_firstPlace 2 = .ok (.invokevirtual 48, 3) := by decide +kernel
theorem dX4_firstPlace_5 : decode cX4_firstPlace 5 = .ok (.aload_n 0, 1) := by decide +kernel
theorem dX4_firstPlace_6 : decode cX4_firstPlace 6 = .ok (.getfield 15, 3) := by decide +kernel
theorem dX4_firstPlace_9 : decode cX4_firstPlace 9 = .ok (.imul, 1) := by decide +kernel
theorem dX4_firstPlace_10 : decode cX4_firstPlace 10 = .ok (.aload_n 0, 1) := by decide +kernel
theorem dX4_firstPlace_11 : decode cX4_firstPlace 11 = .ok (.iload_n 1, 1) := by decide +kernel
theorem dX4_firstPlace_12 : decode cX4_firstPlace 12 = .ok (.invokevirtual 52, 3) := by decide +kernel
theorem dX4_firstPlace_15 : decode cX4_firstPlace 15 = .ok (.iadd, 1) := by decide +kernel
theorem dX4_firstPlace_16 : decode cX4_firstPlace 16 = .ok (.ireturn, 1) := by decide +kernel
theorem dX4_blockSize_0 : decode cX4_blockSize 0 = .ok (.aload_n 0, 1) := by decide +kernel
theorem dX4_blockSize_1 : decode cX4_blockSize 1 = .ok (.getfield 19, 3) := by decide +kernel
theorem dX4_blockSize_4 : decode cX4_blockSize 4 = .ok (.aload_n 0, 1) := by decide +kernel
theorem dX4_blockSize_5 : decode cX4_blockSize 5 = .ok (.invokevirtual 45, 3) := by decide +kernel
theorem dX4_blockSize_8 : decode cX4_blockSize 8 = .ok (.aload_n 0, 1) := by decide +kernel
theorem dX4_blockSize_9 : decode cX4_blockSize 9 = .ok (.iload_n 1, 1) := by decide +kernel
theorem dX4_blockSize_10 : decode cX4_blockSize 10 = .ok (.invokevirtual 48, 3) := by decide +kernel
theorem dX4_blockSize_13 : decode cX4_blockSize 13 = .ok (.isub, 1) := by decide +kernel
theorem dX4_blockSize_14 : decode cX4_blockSize 14 = .ok (.invokestatic 29, 3) := by decide +kernel
theorem dX4_blockSize_17 : decode cX4_blockSize 17 = .ok (.ireturn, 1) := by decide +kernel
theorem dX4_sampleAt_0 : decode cX4_sampleAt 0 = .ok (.iload_n 1, 1) := by decide +kernel
theorem dX4_sampleAt_1 : decode cX4_sampleAt 1 = .ok (.ifCond .lt 11, 3) := by decide +kernel
theorem dX4_sampleAt_4 : decode cX4_sampleAt 4 = .ok (.iload_n 1, 1) := by decide +kernel
theorem dX4_sampleAt_5 : decode cX4_sampleAt 5 = .ok (.aload_n 0, 1) := by decide +kernel
theorem dX4_sampleAt_6 : decode cX4_sampleAt 6 = .ok (.getfield 22, 3) := by decide +kernel
theorem dX4_sampleAt_9 : decode cX4_sampleAt 9 = .ok (.if_icmp .lt 7, 3) := by decide +kernel
theorem dX4_sampleAt_12 : decode cX4_sampleAt 12 = .ok (.iconst 0, 1) := by decide +kernel
theorem dX4_sampleAt_13 : decode cX4_sampleAt 13 = .ok (.goto 9, 3) := by decide +kernel
theorem dX4_sampleAt_16 : decode cX4_sampleAt 16 = .ok (.aload_n 0, 1) := by decide +kernel
theorem dX4_sampleAt_17 : decode cX4_sampleAt 17 = .ok (.getfield 9, 3) := by decide +kernel
theorem dX4_sampleAt_20 : decode cX4_sampleAt 20 = .ok (.iload_n 1, 1) := by decide +kernel
theorem dX4_sampleAt_21 : decode cX4_sampleAt 21 = .ok (.iaload, 1) := by decide +kernel
theorem dX4_sampleAt_22 : decode cX4_sampleAt 22 = .ok (.ireturn, 1) := by decide +kernel
theorem dX4_setAt_0 : decode cX4_setAt 0 = .ok (.iload_n 1, 1) := by decide +kernel
theorem dX4_setAt_1 : decode cX4_setAt 1 = .ok (.ifCond .lt 18, 3) := by decide +kernel
theorem dX4_setAt_4 : decode cX4_setAt 4 = .ok (.iload_n 1, 1) := by decide +kernel
theorem dX4_setAt_5 : decode cX4_setAt 5 = .ok (.aload_n 0, 1) := by decide +kernel
theorem dX4_setAt_6 : decode cX4_setAt 6 = .ok (.getfield 22, 3) := by decide +kernel
theorem dX4_setAt_9 : decode cX4_setAt 9 = .ok (.if_icmp .ge 10, 3) := by decide +kernel
theorem dX4_setAt_12 : decode cX4_setAt 12 = .ok (.aload_n 0, 1) := by decide +kernel
theorem dX4_setAt_13 : decode cX4_setAt 13 = .ok (.getfield 9, 3) := by decide +kernel
theorem dX4_setAt_16 : decode cX4_setAt 16 = .ok (.iload_n 1, 1) := by decide +kernel
theorem dX4_setAt_17 : decode cX4_setAt 17 = .ok (.iload_n 2, 1) := by decide +kernel
theorem dX4_setAt_18 : decode cX4_setAt 18 = .ok (.iastore, 1) := by decide +kernel
theorem dX4_setAt_19 : decode cX4_setAt 19 = .ok (.return_, 1) := by decide +kernel
theorem dX4_toldAhead_0 : decode cX4_toldAhead 0 = .ok (.aload_n 0, 1) := by decide +kernel
theorem dX4_toldAhead_1 : decode cX4_toldAhead 1 = .ok (.iload_n 2, 1) := by decide +kernel
theorem dX4_toldAhead_2 : decode cX4_toldAhead 2 = .ok (.aload_n 0, 1) := by decide +kernel
theorem dX4_toldAhead_3 : decode cX4_toldAhead 3 = .ok (.getfield 15, 3) := by decide +kernel
theorem dX4_toldAhead_6 : decode cX4_toldAhead 6 = .ok (.isub, 1) := by decide +kernel
theorem dX4_toldAhead_7 : decode cX4_toldAhead 7 = .ok (.invokevirtual 55, 3) := by decide +kernel
theorem dX4_toldAhead_10 : decode cX4_toldAhead 10 = .ok (.istore 4, 2) := by decide +kernel
theorem dX4_toldAhead_12 : decode cX4_toldAhead 12 = .ok (.aload_n 0, 1) := by decide +kernel
theorem dX4_toldAhead_13 : decode cX4_toldAhead 13 = .ok (.iload_n 2, 1) := by decide +kernel
theorem dX4_toldAhead_14 : decode cX4_toldAhead 14 = .ok (.iconst 2, 1) := by decide +kernel
theorem dX4_toldAhead_15 : decode cX4_toldAhead 15 = .ok (.aload_n 0, 1) := by decide +kernel
theorem dX4_toldAhead_16 : decode cX4_toldAhead 16 = .ok (.getfield 15, 3) := by decide +kernel
theorem dX4_toldAhead_19 : decode cX4_toldAhead 19 = .ok (.imul, 1) := by decide +kernel
theorem dX4_toldAhead_20 : decode cX4_toldAhead 20 = .ok (.isub, 1) := by decide +kernel
theorem dX4_toldAhead_21 : decode cX4_toldAhead 21 = .ok (.invokevirtual 55, 3) := by decide +kernel
theorem dX4_toldAhead_24 : decode cX4_toldAhead 24 = .ok (.istore 5, 2) := by decide +kernel
theorem dX4_toldAhead_26 : decode cX4_toldAhead 26 = .ok (.aload_n 0, 1) := by decide +kernel
theorem dX4_toldAhead_27 : decode cX4_toldAhead 27 = .ok (.iload_n 2, 1) := by decide +kernel
theorem dX4_toldAhead_28 : decode cX4_toldAhead 28 = .ok (.iconst 3, 1) := by decide +kernel
theorem dX4_toldAhead_29 : decode cX4_toldAhead 29 = .ok (.aload_n 0, 1) := by decide +kernel
theorem dX4_toldAhead_30 : decode cX4_toldAhead 30 = .ok (.getfield 15, 3) := by decide +kernel
theorem dX4_toldAhead_33 : decode cX4_toldAhead 33 = .ok (.imul, 1) := by decide +kernel
theorem dX4_toldAhead_34 : decode cX4_toldAhead 34 = .ok (.isub, 1) := by decide +kernel
theorem dX4_toldAhead_35 : decode cX4_toldAhead 35 = .ok (.invokevirtual 55, 3) := by decide +kernel
theorem dX4_toldAhead_38 : decode cX4_toldAhead 38 = .ok (.istore 6, 2) := by decide +kernel
theorem dX4_toldAhead_40 : decode cX4_toldAhead 40 = .ok (.iload_n 1, 1) := by decide +kernel
theorem dX4_toldAhead_41 : decode cX4_toldAhead 41 = .ok (.tableswitch 51 1 3 #[27, 30, 38], 27) := by decide +kernel
theorem dX4_toldAhead_68 : decode cX4_toldAhead 68 = .ok (.iload 4, 2) := by decide +kernel
theorem dX4_toldAhead_70 : decode cX4_toldAhead 70 = .ok (.ireturn, 1) := by decide +kernel
theorem dX4_toldAhead_71 : decode cX4_toldAhead 71 = .ok (.iconst 2, 1) := by decide +kernel
theorem dX4_toldAhead_72 : decode cX4_toldAhead 72 = .ok (.iload 4, 2) := by decide +kernel
theorem dX4_toldAhead_74 : decode cX4_toldAhead 74 = .ok (.imul, 1) := by decide +kernel
theorem dX4_toldAhead_75 : decode cX4_toldAhead 75 = .ok (.iload 5, 2) := by decide +kernel
theorem dX4_toldAhead_77 : decode cX4_toldAhead 77 = .ok (.isub, 1) := by decide +kernel
theorem dX4_toldAhead_78 : decode cX4_toldAhead 78 = .ok (.ireturn, 1) := by decide +kernel
theorem dX4_toldAhead_79 : decode cX4_toldAhead 79 = .ok (.iconst 3, 1) := by decide +kernel
theorem dX4_toldAhead_80 : decode cX4_toldAhead 80 = .ok (.iload 4, 2) := by decide +kernel
theorem dX4_toldAhead_82 : decode cX4_toldAhead 82 = .ok (.imul, 1) := by decide +kernel
theorem dX4_toldAhead_83 : decode cX4_toldAhead 83 = .ok (.iconst 3, 1) := by decide +kernel
theorem dX4_toldAhead_84 : decode cX4_toldAhead 84 = .ok (.iload 5, 2) := by decide +kernel
theorem dX4_toldAhead_86 : decode cX4_toldAhead 86 = .ok (.imul, 1) := by decide +kernel
theorem dX4_toldAhead_87 : decode cX4_toldAhead 87 = .ok (.isub, 1) := by decide +kernel
theorem dX4_toldAhead_88 : decode cX4_toldAhead 88 = .ok (.iload 6, 2) := by decide +kernel
theorem dX4_toldAhead_90 : decode cX4_toldAhead 90 = .ok (.iadd, 1) := by decide +kernel
theorem dX4_toldAhead_91 : decode cX4_toldAhead 91 = .ok (.ireturn, 1) := by decide +kernel
theorem dX4_toldAhead_92 : decode cX4_toldAhead 92 = .ok (.iload_n 3, 1) := by decide +kernel
theorem dX4_toldAhead_93 : decode cX4_toldAhead 93 = .ok (.ireturn, 1) := by decide +kernel
theorem dX5_init_0 : decode cX5_init 0 = .ok (.aload_n 0, 1) := by decide +kernel
theorem dX5_init_1 : decode cX5_init 1 = .ok (.invokespecial 3, 3) := by decide +kernel
theorem dX5_init_4 : decode cX5_init 4 = .ok (.aload_n 0, 1) := by decide +kernel
theorem dX5_init_5 : decode cX5_init 5 = .ok (.new 9, 3) := by decide +kernel
theorem dX5_init_8 : decode cX5_init 8 = .ok (.dup, 1) := by decide +kernel
theorem dX5_init_9 : decode cX5_init 9 = .ok (.invokespecial 11, 3) := by decide +kernel
theorem dX5_init_12 : decode cX5_init 12 = .ok (.putfield 12, 3) := by decide +kernel
theorem dX5_init_15 : decode cX5_init 15 = .ok (.aload_n 0, 1) := by decide +kernel
theorem dX5_init_16 : decode cX5_init 16 = .ok (.new 18, 3) := by decide +kernel
theorem dX5_init_19 : decode cX5_init 19 = .ok (.dup, 1) := by decide +kernel
theorem dX5_init_20 : decode cX5_init 20 = .ok (.invokespecial 20, 3) := by decide +kernel
theorem dX5_init_23 : decode cX5_init 23 = .ok (.putfield 21, 3) := by decide +kernel
theorem dX5_init_26 : decode cX5_init 26 = .ok (.aload_n 0, 1) := by decide +kernel
theorem dX5_init_27 : decode cX5_init 27 = .ok (.new 25, 3) := by decide +kernel
theorem dX5_init_30 : decode cX5_init 30 = .ok (.dup, 1) := by decide +kernel
theorem dX5_init_31 : decode cX5_init 31 = .ok (.iconst 0, 1) := by decide +kernel
theorem dX5_init_32 : decode cX5_init 32 = .ok (.iconst 0, 1) := by decide +kernel
theorem dX5_init_33 : decode cX5_init 33 = .ok (.invokespecial 27, 3) := by decide +kernel
theorem dX5_init_36 : decode cX5_init 36 = .ok (.putfield 30, 3) := by decide +kernel
theorem dX5_init_39 : decode cX5_init 39 = .ok (.aload_n 0, 1) := by decide +kernel
theorem dX5_init_40 : decode cX5_init 40 = .ok (.new 25, 3) := by decide +kernel
theorem dX5_init_43 : decode cX5_init 43 = .ok (.dup, 1) := by decide +kernel
theorem dX5_init_44 : decode cX5_init 44 = .ok (.iconst 0, 1) := by decide +kernel
theorem dX5_init_45 : decode cX5_init 45 = .ok (.iconst 0, 1) := by decide +kernel
theorem dX5_init_46 : decode cX5_init 46 = .ok (.invokespecial 27, 3) := by decide +kernel
theorem dX5_init_49 : decode cX5_init 49 = .ok (.putfield 34, 3) := by decide +kernel
theorem dX5_init_52 : decode cX5_init 52 = .ok (.aload_n 0, 1) := by decide +kernel
theorem dX5_init_53 : decode cX5_init 53 = .ok (.iconst (-1), 1) := by decide +kernel
theorem dX5_init_54 : decode cX5_init 54 = .ok (.putfield 37, 3) := by decide +kernel
theorem dX5_init_57 : decode cX5_init 57 = .ok (.return_, 1) := by decide +kernel
theorem dX5_parse_0 : decode cX5_parse 0 = .ok (.aload_n 0, 1) := by decide +kernel
theorem dX5_parse_1 : decode cX5_parse 1 = .ok (.getfield 21, 3) := by decide +kernel
theorem dX5_parse_4 : decode cX5_parse 4 = .ok (.invokevirtual 41, 3) := by decide +kernel
theorem dX5_parse_7 : decode cX5_parse 7 = .ok (.aload_n 0, 1) := by decide +kernel
theorem dX5_parse_8 : decode cX5_parse 8 = .ok (.iconst (-1), 1) := by decide +kernel
theorem dX5_parse_9 : decode cX5_parse 9 = .ok (.putfield 37, 3) := by decide +kernel
theorem dX5_parse_12 : decode cX5_parse 12 = .ok (.aload_n 0, 1) := by decide +kernel
theorem dX5_parse_13 : decode cX5_parse 13 = .ok (.invokevirtual 44, 3) := by decide +kernel
theorem dX5_parse_16 : decode cX5_parse 16 = .ok (.aload_n 0, 1) := by decide +kernel
theorem dX5_parse_17 : decode cX5_parse 17 = .ok (.invokevirtual 47, 3) := by decide +kernel
theorem dX5_parse_20 : decode cX5_parse 20 = .ok (.ifCond .eq 13, 3) := by decide +kernel
theorem dX5_parse_23 : decode cX5_parse 23 = .ok (.aload_n 0, 1) := by decide +kernel
theorem dX5_parse_24 : decode cX5_parse 24 = .ok (.getfield 34, 3) := by decide +kernel
theorem dX5_parse_27 : decode cX5_parse 27 = .ok (.invokevirtual 51, 3) := by decide +kernel
theorem dX5_parse_30 : decode cX5_parse 30 = .ok (.goto 4, 3) := by decide +kernel
theorem dX5_parse_33 : decode cX5_parse 33 = .ok (.iconst 0, 1) := by decide +kernel
theorem dX5_parse_34 : decode cX5_parse 34 = .ok (.istore_n 1, 1) := by decide +kernel
theorem dX5_parse_35 : decode cX5_parse 35 = .ok (.iconst 0, 1) := by decide +kernel
theorem dX5_parse_36 : decode cX5_parse 36 = .ok (.istore_n 2, 1) := by decide +kernel
theorem dX5_parse_37 : decode cX5_parse 37 = .ok (.iload_n 2, 1) := by decide +kernel
theorem dX5_parse_38 : decode cX5_parse 38 = .ok (.iload_n 1, 1) := by decide +kernel
theorem dX5_parse_39 : decode cX5_parse 39 = .ok (.if_icmp .ge 21, 3) := by decide +kernel
theorem dX5_parse_42 : decode cX5_parse 42 = .ok (.aload_n 0, 1) := by decide +kernel
theorem dX5_parse_43 : decode cX5_parse 43 = .ok (.invokevirtual 47, 3) := by decide +kernel
theorem dX5_parse_46 : decode cX5_parse 46 = .ok (.ifCond .eq 14, 3) := by decide +kernel
theorem dX5_parse_49 : decode cX5_parse 49 = .ok (.aload_n 0, 1) := by decide +kernel
theorem dX5_parse_50 : decode cX5_parse 50 = .ok (.iload_n 2, 1) := by decide +kernel
theorem dX5_parse_51 : decode cX5_parse 51 = .ok (.invokevirtual 55, 3) := by decide +kernel
theorem dX5_parse_54 : decode cX5_parse 54 = .ok (.iinc 2 1, 3) := by decide +kernel
theorem dX5_parse_57 : decode cX5_parse 57 = .ok (.goto (-20), 3) := by decide +kernel
theorem dX5_parse_60 : decode cX5_parse 60 = .ok (.aload_n 0, 1) := by decide +kernel
theorem dX5_parse_61 : decode cX5_parse 61 = .ok (.iconst 2, 1) := by decide +kernel
theorem dX5_parse_62 : decode cX5_parse 62 = .ok (.iconst 5, 1) := by decide +kernel
theorem dX5_parse_63 : decode cX5_parse 63 = .ok (.iconst 5, 1) := by decide +kernel
theorem dX5_parse_64 : decode cX5_parse 64 = .ok (.invokevirtual 59, 3) := by decide +kernel
theorem dX5_parse_67 : decode cX5_parse 67 = .ok (.pop, 1) := by decide +kernel
theorem dX5_parse_68 : decode cX5_parse 68 = .ok (.aload_n 0, 1) := by decide +kernel
theorem dX5_parse_69 : decode cX5_parse 69 = .ok (.invokevirtual 63, 3) := by decide +kernel
theorem dX5_parse_72 : decode cX5_parse 72 = .ok (.aload_n 0, 1) := by decide +kernel
theorem dX5_parse_73 : decode cX5_parse 73 = .ok (.invokevirtual 47, 3) := by decide +kernel
theorem dX5_parse_76 : decode cX5_parse 76 = .ok (.ifCond .eq 21, 3) := by decide +kernel
theorem dX5_parse_79 : decode cX5_parse 79 = .ok (.aload_n 0, 1) := by decide +kernel
theorem dX5_parse_80 : decode cX5_parse 80 = .ok (.getfield 30, 3) := by decide +kernel
theorem dX5_parse_83 : decode cX5_parse 83 = .ok (.astore_n 2, 1) := by decide +kernel
theorem dX5_parse_84 : decode cX5_parse 84 = .ok (.aload_n 0, 1) := by decide +kernel
theorem dX5_parse_85 : decode cX5_parse 85 = .ok (.aload_n 0, 1) := by decide +kernel
theorem dX5_parse_86 : decode cX5_parse 86 = .ok (.getfield 34, 3) := by decide +kernel
theorem dX5_parse_89 : decode cX5_parse 89 = .ok (.putfield 30, 3) := by decide +kernel
theorem dX5_parse_92 : decode cX5_parse 92 = .ok (.aload_n 0, 1) := by decide +kernel
theorem dX5_parse_93 : decode cX5_parse 93 = .ok (.aload_n 2, 1) := by decide +kernel
theorem dX5_parse_94 : decode cX5_parse 94 = .ok (.putfield 34, 3) := by decide +kernel
theorem dX5_parse_97 : decode cX5_parse 97 = .ok (.aload_n 0, 1) := by decide +kernel
theorem dX5_parse_98 : decode cX5_parse 98 = .ok (.getfield 37, 3) := by decide +kernel
theorem dX5_parse_101 : decode cX5_parse 101 = .ok (.ireturn, 1) := by decide +kernel
theorem dX5_isRight_0 : decode cX5_isRight 0 = .ok (.aload_n 0, 1) := by decide +kernel
theorem dX5_isRight_1 : decode cX5_isRight 1 = .ok (.getfield 37, 3) := by decide +kernel
theorem dX5_isRight_4 : decode cX5_isRight 4 = .ok (.iconst (-1), 1) := by decide +kernel
theorem dX5_isRight_5 : decode cX5_isRight 5 = .ok (.if_icmp .ne 7, 3) := by decide +kernel
theorem dX5_isRight_8 : decode cX5_isRight 8 = .ok (.iconst 1, 1) := by decide +kernel
theorem dX5_isRight_9 : decode cX5_isRight 9 = .ok (.goto 4, 3) := by decide +kernel
theorem dX5_isRight_12 : decode cX5_isRight 12 = .ok (.iconst 0, 1) := by decide +kernel
theorem dX5_isRight_13 : decode cX5_isRight 13 = .ok (.ireturn, 1) := by decide +kernel
theorem dX5_parseHead_0 : decode cX5_parseHead 0 = .ok (.aload_n 0, 1) := by decide +kernel
theorem dX5_parseHead_1 : decode cX5_parseHead 1 = .ok (.bipush 83, 2) := by decide +kernel
theorem dX5_parseHead_3 : decode cX5_parseHead 3 = .ok (.invokevirtual 66, 3) := by decide +kernel
theorem dX5_parseHead_6 : decode cX5_parseHead 6 = .ok (.aload_n 0, 1) := by decide +kernel
theorem dX5_parseHead_7 : decode cX5_parseHead 7 = .ok (.bipush 66, 2) := by decide +kernel
theorem dX5_parseHead_9 : decode cX5_parseHead 9 = .ok (.invokevirtual 66, 3) := by decide +kernel
theorem dX5_parseHead_12 : decode cX5_parseHead 12 = .ok (.aload_n 0, 1) := by decide +kernel
theorem dX5_parseHead_13 : decode cX5_parseHead 13 = .ok (.iconst 2, 1) := by decide +kernel
theorem dX5_parseHead_14 : decode cX5_parseHead 14 = .ok (.iconst 1, 1) := by decide +kernel
theorem dX5_parseHead_15 : decode cX5_parseHead 15 = .ok (.iconst 2, 1) := by decide +kernel
theorem dX5_parseHead_16 : decode cX5_parseHead 16 = .ok (.invokevirtual 59, 3) := by decide +kernel
theorem dX5_parseHead_19 : decode cX5_parseHead 19 = .ok (.istore_n 1, 1) := by decide +kernel
theorem dX5_parseHead_20 : decode cX5_parseHead 20 = .ok (.aload_n 0, 1) := by decide +kernel
theorem dX5_parseHead_21 : decode cX5_parseHead 21 = .ok (.iconst 4, 1) := by decide +kernel
theorem dX5_parseHead_22 : decode cX5_parseHead 22 = .ok (.iconst 1, 1) := by decide +kernel
theorem dX5_parseHead_23 : decode cX5_parseHead 23 = .ok (.bipush 64, 2) := by decide +kernel
theorem dX5_parseHead_25 : decode cX5_parseHead 25 = .ok (.invokevirtual 59, 3) := by decide +kernel
theorem dX5_parseHead_28 : decode cX5_parseHead 28 = .ok (.istore_n 2, 1) := by decide +kernel
theorem dX5_parseHead_29 : decode cX5_parseHead 29 = .ok (.aload_n 0, 1) := by decide +kernel
theorem dX5_parseHead_30 : decode cX5_parseHead 30 = .ok (.bipush 6, 2) := by decide +kernel
theorem dX5_parseHead_32 : decode cX5_parseHead 32 = .ok (.iconst 0, 1) := by decide +kernel
theorem dX5_parseHead_33 : decode cX5_parseHead 33 = .ok (.sipush 400, 3) := by decide +kernel
theorem dX5_parseHead_36 : decode cX5_parseHead 36 = .ok (.invokevirtual 59, 3) := by decide +kernel
theorem dX5_parseHead_39 : decode cX5_parseHead 39 = .ok (.istore_n 3, 1) := by decide +kernel
theorem dX5_parseHead_40 : decode cX5_parseHead 40 = .ok (.aload_n 0, 1) := by decide +kernel
theorem dX5_parseHead_41 : decode cX5_parseHead 41 = .ok (.invokevirtual 47, 3) := by decide +kernel
theorem dX5_parseHead_44 : decode cX5_parseHead 44 = .ok (.ifCond .eq 13, 3) := by decide +kernel
theorem dX5_parseHead_47 : decode cX5_parseHead 47 = .ok (.aload_n 0, 1) := by decide +kernel
theorem dX5_parseHead_48 : decode cX5_parseHead 48 = .ok (.getfield 34, 3) := by decide +kernel
theorem dX5_parseHead_51 : decode cX5_parseHead 51 = .ok (.iload_n 1, 1) := by decide +kernel
theorem dX5_parseHead_52 : decode cX5_parseHead 52 = .ok (.iload_n 2, 1) := by decide +kernel
theorem dX5_parseHead_53 : decode cX5_parseHead 53 = .ok (.iload_n 3, 1) := by decide +kernel
theorem dX5_parseHead_54 : decode cX5_parseHead 54 = .ok (.invokevirtual 69, 3) := by decide +kernel
theorem dX5_parseHead_57 : decode cX5_parseHead 57 = .ok (.return_, 1) := by decide +kernel
theorem dX5_parseBlock_0 : decode cX5_parseBlock 0 = .ok (.aload_n 0, 1) := by decide +kernel
theorem dX5_parseBlock_1 : decode cX5_parseBlock 1 = .ok (.iconst 2, 1) := by decide +kernel
theorem dX5_parseBlock_2 : decode cX5_parseBlock 2 = .ok (.iconst 0, 1) := by decide +kernel
theorem dX5_parseBlock_3 : decode cX5_parseBlock 3 = .ok (.iconst 4, 1) := by decide +kernel
theorem dX5_parseBlock_4 : decode cX5_parseBlock 4 = .ok (.invokevirtual 59, 3) := by decide +kernel
theorem dX5_parseBlock_7 : decode cX5_parseBlock 7 = .ok (.istore_n 2, 1) := by decide +kernel
theorem dX5_parseBlock_8 : decode cX5_parseBlock 8 = .ok (.iload_n 2, 1) := by decide +kernel
theorem dX5_parseBlock_9 : decode cX5_parseBlock 9 = .ok (.iconst 4, 1) := by decide +kernel
theorem dX5_parseBlock_10 : decode cX5_parseBlock 10 = .ok (.if_icmp .ne 7, 3) := by decide +kernel
theorem dX5_parseBlock_13 : decode cX5_parseBlock 13 = .ok (.iconst 0, 1) := by decide +kernel
theorem dX5_parseBlock_14 : decode cX5_parseBlock 14 = .ok (.goto 11, 3) := by decide +kernel
theorem dX5_parseBlock_17 : decode cX5_parseBlock 17 = .ok (.aload_n 0, 1) := by decide +kernel
theorem dX5_parseBlock_18 : decode cX5_parseBlock 18 = .ok (.iconst 3, 1) := by decide +kernel
theorem dX5_parseBlock_19 : decode cX5_parseBlock 19 = .ok (.iconst 0, 1) := by decide +kernel
theorem dX5_parseBlock_20 : decode cX5_parseBlock 20 = .ok (.bipush 15, 2) := by decide +kernel
theorem dX5_parseBlock_22 : decode cX5_parseBlock 22 = .ok (.invokevirtual 59, 3) := by decide +kernel
theorem dX5_parseBlock_25 : decode cX5_parseBlock 25 = .ok (.istore_n 3, 1) := by decide +kernel
theorem dX5_parseBlock_26 : decode cX5_parseBlock 26 = .ok (.aload_n 0, 1) := by decide +kernel
theorem dX5_parseBlock_27 : decode cX5_parseBlock 27 = .ok (.getfield 12, 3) := by decide +kernel
theorem dX5_parseBlock_30 : decode cX5_parseBlock 30 = .ok (.iload_n 1, 1) := by decide +kernel
theorem dX5_parseBlock_31 : decode cX5_parseBlock 31 = .ok (.aload_n 0, 1) := by decide +kernel
theorem dX5_parseBlock_32 : decode cX5_parseBlock 32 = .ok (.getfield 34, 3) := by decide +kernel
theorem dX5_parseBlock_35 : decode cX5_parseBlock 35 = .ok (.getfield 73, 3) := by decide +kernel
theorem dX5_parseBlock_38 : decode cX5_parseBlock 38 = .ok (.invokevirtual 76, 3) := by decide +kernel
theorem dX5_parseBlock_41 : decode cX5_parseBlock 41 = .ok (.istore 4, 2) := by decide +kernel
theorem dX5_parseBlock_43 : decode cX5_parseBlock 43 = .ok (.aload_n 0, 1) := by decide +kernel
theorem dX5_parseBlock_44 : decode cX5_parseBlock 44 = .ok (.getfield 34, 3) := by decide +kernel
theorem dX5_parseBlock_47 : decode cX5_parseBlock 47 = .ok (.iload_n 1, 1) := by decide +kernel
theorem dX5_parseBlock_48 : decode cX5_parseBlock 48 = .ok (.invokevirtual 80, 3) := by decide +kernel
theorem dX5_parseBlock_51 : decode cX5_parseBlock 51 = .ok (.istore 5, 2) := by decide +kernel
theorem dX5_parseBlock_53 : decode cX5_parseBlock 53 = .ok (.aload_n 0, 1) := by decide +kernel
theorem dX5_parseBlock_54 : decode cX5_parseBlock 54 = .ok (.getfield 34, 3) := by decide +kernel
theorem dX5_parseBlock_57 : decode cX5_parseBlock 57 = .ok (.iload_n 1, 1) := by decide +kernel
theorem dX5_parseBlock_58 : decode cX5_parseBlock 58 = .ok (.invokevirtual 84, 3) := by decide +kernel
theorem dX5_parseBlock_61 : decode cX5_parseBlock 61 = .ok (.istore 6, 2) := by decide +kernel
theorem dX5_parseBlock_63 : decode cX5_parseBlock 63 = .ok (.iconst 0, 1) := by decide +kernel
theorem dX5_parseBlock_64 : decode cX5_parseBlock 64 = .ok (.istore 7, 2) := by decide +kernel
theorem dX5_parseBlock_66 : decode cX5_parseBlock 66 = .ok (.iload 7, 2) := by decide +kernel
theorem dX5_parseBlock_68 : decode cX5_parseBlock 68 = .ok (.iload 6, 2) := by decide +kernel
theorem dX5_parseBlock_70 : decode cX5_parseBlock 70 = .ok (.if_icmp .ge 115, 3) := by decide +kernel
theorem dX5_parseBlock_73 : decode cX5_parseBlock 73 = .ok (.aload_n 0, 1) := by decide +kernel
theorem dX5_parseBlock_74 : decode cX5_parseBlock 74 = .ok (.invokevirtual 47, 3) := by decide +kernel
theorem dX5_parseBlock_77 : decode cX5_parseBlock 77 = .ok (.ifCond .eq 108, 3) := by decide +kernel
theorem dX5_parseBlock_80 : decode cX5_parseBlock 80 = .ok (.aload_n 0, 1) := by decide +kernel
theorem dX5_parseBlock_81 : decode cX5_parseBlock 81 = .ok (.getfield 21, 3) := by decide +kernel
theorem dX5_parseBlock_84 : decode cX5_parseBlock 84 = .ok (.getfield 87, 3) := by decide +kernel
theorem dX5_parseBlock_87 : decode cX5_parseBlock 87 = .ok (.istore 8, 2) := by decide +kernel
theorem dX5_parseBlock_89 : decode cX5_parseBlock 89 = .ok (.iload_n 2, 1) := by decide +kernel
theorem dX5_parseBlock_90 : decode cX5_parseBlock 90 = .ok (.iconst 4, 1) := by decide +kernel
theorem dX5_parseBlock_91 : decode cX5_parseBlock 91 = .ok (.if_icmp .ne 7, 3) := by decide +kernel
theorem dX5_parseBlock_94 : decode cX5_parseBlock 94 = .ok (.iconst 0, 1) := by decide +kernel
theorem dX5_parseBlock_95 : decode cX5_parseBlock 95 = .ok (.goto 14, 3) := by decide +kernel
theorem dX5_parseBlock_98 : decode cX5_parseBlock 98 = .ok (.aload_n 0, 1) := by decide +kernel
theorem dX5_parseBlock_99 : decode cX5_parseBlock 99 = .ok (.iload_n 3, 1) := by decide +kernel
theorem dX5_parseBlock_100 : decode cX5_parseBlock 100 = .ok (.iconst 0, 1) := by decide +kernel
theorem dX5_parseBlock_101 : decode cX5_parseBlock 101 = .ok (.ldc 90, 2) := by decide +kernel
theorem dX5_parseBlock_103 : decode cX5_parseBlock 103 = .ok (.invokevirtual 59, 3) := by decide +kernel
theorem dX5_parseBlock_106 : decode cX5_parseBlock 106 = .ok (.invokestatic 91, 3) := by decide +kernel
theorem dX5_parseBlock_109 : decode cX5_parseBlock 109 = .ok (.istore 9, 2) := by decide +kernel
theorem dX5_parseBlock_111 : decode cX5_parseBlock 111 = .ok (.aload_n 0, 1) := by decide +kernel
theorem dX5_parseBlock_112 : decode cX5_parseBlock 112 = .ok (.getfield 34, 3) := by decide +kernel
theorem dX5_parseBlock_115 : decode cX5_parseBlock 115 = .ok (.iload_n 2, 1) := by decide +kernel
theorem dX5_parseBlock_116 : decode cX5_parseBlock 116 = .ok (.iload 5, 2) := by decide +kernel
theorem dX5_parseBlock_118 : decode cX5_parseBlock 118 = .ok (.iload 4, 2) := by decide +kernel
theorem dX5_parseBlock_120 : decode cX5_parseBlock 120 = .ok (.invokevirtual 94, 3) := by decide +kernel
theorem dX5_parseBlock_123 : decode cX5_parseBlock 123 = .ok (.iload 9, 2) := by decide +kernel
theorem dX5_parseBlock_125 : decode cX5_parseBlock 125 = .ok (.iadd, 1) := by decide +kernel
theorem dX5_parseBlock_126 : decode cX5_parseBlock 126 = .ok (.istore 10, 2) := by decide +kernel
theorem dX5_parseBlock_128 : decode cX5_parseBlock 128 = .ok (.aload_n 0, 1) := by decide +kernel
theorem dX5_parseBlock_129 : decode cX5_parseBlock 129 = .ok (.invokevirtual 47, 3) := by decide +kernel
theorem dX5_parseBlock_132 : decode cX5_parseBlock 132 = .ok (.ifCond .eq 17, 3) := by decide +kernel
theorem dX5_parseBlock_135 : decode cX5_parseBlock 135 = .ok (.iload 10, 2) := by decide +kernel
theorem dX5_parseBlock_137 : decode cX5_parseBlock 137 = .ok (.invokestatic 97, 3) := by decide +kernel
theorem dX5_parseBlock_140 : decode cX5_parseBlock 140 = .ok (.ifCond .ne 9, 3) := by decide +kernel
theorem dX5_parseBlock_143 : decode cX5_parseBlock 143 = .ok (.aload_n 0, 1) := by decide +kernel
theorem dX5_parseBlock_144 : decode cX5_parseBlock 144 = .ok (.iload 8, 2) := by decide +kernel
theorem dX5_parseBlock_146 : decode cX5_parseBlock 146 = .ok (.putfield 37, 3) := by decide +kernel
theorem dX5_parseBlock_149 : decode cX5_parseBlock 149 = .ok (.aload_n 0, 1) := by decide +kernel
theorem dX5_parseBlock_150 : decode cX5_parseBlock 150 = .ok (.invokevirtual 47, 3) := by decide +kernel
theorem dX5_parseBlock_153 : decode cX5_parseBlock 153 = .ok (.ifCond .eq 14, 3) := by decide +kernel
theorem dX5_parseBlock_156 : decode cX5_parseBlock 156 = .ok (.aload_n 0, 1) := by decide +kernel
theorem dX5_parseBlock_157 : decode cX5_parseBlock 157 = .ok (.getfield 34, 3) := by decide +kernel
theorem dX5_parseBlock_160 : decode cX5_parseBlock 160 = .ok (.iload 5, 2) := by decide +kernel
theorem dX5_parseBlock_162 : decode cX5_parseBlock 162 = .ok (.iload 10, 2) := by decide +kernel
theorem dX5_parseBlock_164 : decode cX5_parseBlock 164 = .ok (.invokevirtual 101, 3) := by decide +kernel
theorem dX5_parseBlock_167 : decode cX5_parseBlock 167 = .ok (.iload 5, 2) := by decide +kernel
theorem dX5_parseBlock_169 : decode cX5_parseBlock 169 = .ok (.aload_n 0, 1) := by decide +kernel
theorem dX5_parseBlock_170 : decode cX5_parseBlock 170 = .ok (.getfield 34, 3) := by decide +kernel
theorem dX5_parseBlock_173 : decode cX5_parseBlock 173 = .ok (.getfield 73, 3) := by decide +kernel
theorem dX5_parseBlock_176 : decode cX5_parseBlock 176 = .ok (.iadd, 1) := by decide +kernel
theorem dX5_parseBlock_177 : decode cX5_parseBlock 177 = .ok (.istore 5, 2) := by decide +kernel
theorem dX5_parseBlock_179 : decode cX5_parseBlock 179 = .ok (.iinc 7 1, 3) := by decide +kernel
theorem dX5_parseBlock_182 : decode cX5_parseBlock 182 = .ok (.goto (-116), 3) := by decide +kernel
theorem dX5_parseBlock_185 : decode cX5_parseBlock 185 = .ok (.aload_n 0, 1) := by decide +kernel
theorem dX5_parseBlock_186 : decode cX5_parseBlock 186 = .ok (.invokevirtual 47, 3) := by decide +kernel
theorem dX5_parseBlock_189 : decode cX5_parseBlock 189 = .ok (.ifCond .eq 15, 3) := by decide +kernel
theorem dX5_parseBlock_192 : decode cX5_parseBlock 192 = .ok (.aload_n 0, 1) := by decide +kernel
theorem dX5_parseBlock_193 : decode cX5_parseBlock 193 = .ok (.getfield 12, 3) := by decide +kernel
theorem dX5_parseBlock_196 : decode cX5_parseBlock 196 = .ok (.iload_n 1, 1) := by decide +kernel
theorem dX5_parseBlock_197 : decode cX5_parseBlock 197 = .ok (.aload_n 0, 1) := by decide +kernel
theorem dX5_parseBlock_198 : decode cX5_parseBlock 198 = .ok (.getfield 34, 3) := by decide +kernel
theorem dX5_parseBlock_201 : decode cX5_parseBlock 201 = .ok (.invokevirtual 104, 3) := by decide +kernel
theorem dX5_parseBlock_204 : decode cX5_parseBlock 204 = .ok (.return_, 1) := by decide +kernel
theorem dX5_parseFilling_0 : decode cX5_parseFilling 0 = .ok (.aload_n 0, 1) := by decide +kernel
theorem dX5_parseFilling_1 : decode cX5_parseFilling 1 = .ok (.getfield 21, 3) := by decide +kernel
theorem dX5_parseFilling_4 : decode cX5_parseFilling 4 = .ok (.getfield 87, 3) := by decide +kernel
theorem dX5_parseFilling_7 : decode cX5_parseFilling 7 = .ok (.bipush 7, 2) := by decide +kernel
theorem dX5_parseFilling_9 : decode cX5_parseFilling 9 = .ok (.iadd, 1) := by decide +kernel
theorem dX5_parseFilling_10 : decode cX5_parseFilling 10 = .ok (.bipush (-8), 2) := by decide +kernel
theorem dX5_parseFilling_12 : decode cX5_parseFilling 12 = .ok (.iand, 1) := by decide +kernel
theorem dX5_parseFilling_13 : decode cX5_parseFilling 13 = .ok (.istore_n 1, 1) := by decide +kernel
theorem dX5_parseFilling_14 : decode cX5_parseFilling 14 = .ok (.aload_n 0, 1) := by decide +kernel
theorem dX5_parseFilling_15 : decode cX5_parseFilling 15 = .ok (.invokevirtual 47, 3) := by decide +kernel
theorem dX5_parseFilling_18 : decode cX5_parseFilling 18 = .ok (.ifCond .eq 51, 3) := by decide +kernel
theorem dX5_parseFilling_21 : decode cX5_parseFilling 21 = .ok (.aload_n 0, 1) := by decide +kernel
theorem dX5_parseFilling_22 : decode cX5_parseFilling 22 = .ok (.getfield 21, 3) := by decide +kernel
theorem dX5_parseFilling_25 : decode cX5_parseFilling 25 = .ok (.getfield 87, 3) := by decide +kernel
theorem dX5_parseFilling_28 : decode cX5_parseFilling 28 = .ok (.iload_n 1, 1) := by decide +kernel
theorem dX5_parseFilling_29 : decode cX5_parseFilling 29 = .ok (.if_icmp .ge 40, 3) := by decide +kernel
theorem dX5_parseFilling_32 : decode cX5_parseFilling 32 = .ok (.aload_n 0, 1) := by decide +kernel
theorem dX5_parseFilling_33 : decode cX5_parseFilling 33 = .ok (.getfield 21, 3) := by decide +kernel
theorem dX5_parseFilling_36 : decode cX5_parseFilling 36 = .ok (.invokevirtual 108, 3) := by decide +kernel
theorem dX5_parseFilling_39 : decode cX5_parseFilling 39 = .ok (.ifCond .eq 14, 3) := by decide +kernel
theorem dX5_parseFilling_42 : decode cX5_parseFilling 42 = .ok (.aload_n 0, 1) := by decide +kernel
theorem dX5_parseFilling_43 : decode cX5_parseFilling 43 = .ok (.aload_n 0, 1) := by decide +kernel
theorem dX5_parseFilling_44 : decode cX5_parseFilling 44 = .ok (.getfield 21, 3) := by decide +kernel
theorem dX5_parseFilling_47 : decode cX5_parseFilling 47 = .ok (.getfield 87, 3) := by decide +kernel
theorem dX5_parseFilling_50 : decode cX5_parseFilling 50 = .ok (.putfield 37, 3) := by decide +kernel
theorem dX5_parseFilling_53 : decode cX5_parseFilling 53 = .ok (.aload_n 0, 1) := by decide +kernel
theorem dX5_parseFilling_54 : decode cX5_parseFilling 54 = .ok (.getfield 21, 3) := by decide +kernel
theorem dX5_parseFilling_57 : decode cX5_parseFilling 57 = .ok (.dup, 1) := by decide +kernel
theorem dX5_parseFilling_58 : decode cX5_parseFilling 58 = .ok (.getfield 87, 3) := by decide +kernel
theorem dX5_parseFilling_61 : decode cX5_parseFilling 61 = .ok (.iconst 1, 1) := by decide +kernel
theorem dX5_parseFilling_62 : decode cX5_parseFilling 62 = .ok (.iadd, 1) := by decide +kernel
theorem dX5_parseFilling_63 : decode cX5_parseFilling 63 = .ok (.putfield 87, 3) := by decide +kernel
theorem dX5_parseFilling_66 : decode cX5_parseFilling 66 = .ok (.goto (-52), 3) := by decide +kernel
theorem dX5_parseFilling_69 : decode cX5_parseFilling 69 = .ok (.aload_n 0, 1) := by decide +kernel
theorem dX5_parseFilling_70 : decode cX5_parseFilling 70 = .ok (.invokevirtual 47, 3) := by decide +kernel
theorem dX5_parseFilling_73 : decode cX5_parseFilling 73 = .ok (.ifCond .eq 31, 3) := by decide +kernel
theorem dX5_parseFilling_76 : decode cX5_parseFilling 76 = .ok (.aload_n 0, 1) := by decide +kernel
theorem dX5_parseFilling_77 : decode cX5_parseFilling 77 = .ok (.getfield 21, 3) := by decide +kernel
theorem dX5_parseFilling_80 : decode cX5_parseFilling 80 = .ok (.getfield 87, 3) := by decide +kernel
