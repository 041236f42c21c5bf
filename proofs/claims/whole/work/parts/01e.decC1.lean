theorem dX8_take_27 : decode cX8_take 27 = .ok (.iconst 0, 1) := by decide +kernel
theorem dX8_take_28 : decode cX8_take 28 = .ok (.istore_n 2, 1) := by decide +kernel
theorem dX8_take_29 : decode cX8_take 29 = .ok (.iload_n 2, 1) := by decide +kernel
theorem dX8_take_30 : decode cX8_take 30 = .ok (.iload_n 1, 1) := by decide +kernel
theorem dX8_take_31 : decode cX8_take 31 = .ok (.if_icmp .ge 20, 3) := by decide +kernel
theorem dX8_take_34 : decode cX8_take 34 = .ok (.aload_n 0, 1) := by decide +kernel
theorem dX8_take_35 : decode cX8_take 35 = .ok (.getfield 31, 3) := by decide +kernel
theorem dX8_take_38 : decode cX8_take 38 = .ok (.iload_n 2, 1) := by decide +kernel
theorem dX8_take_39 : decode cX8_take 39 = .ok (.aload_n 0, 1) := by decide +kernel
theorem dX8_take_40 : decode cX8_take 40 = .ok (.iload_n 2, 1) := by decide +kernel
theorem dX8_take_41 : decode cX8_take 41 = .ok (.invokevirtual 119, 3) := by decide +kernel
theorem dX8_take_44 : decode cX8_take 44 = .ok (.iastore, 1) := by decide +kernel
theorem dX8_take_45 : decode cX8_take 45 = .ok (.iinc 2 1, 3) := by decide +kernel
theorem dX8_take_48 : decode cX8_take 48 = .ok (.goto (-19), 3) := by decide +kernel
theorem dX8_take_51 : decode cX8_take 51 = .ok (.aload_n 0, 1) := by decide +kernel
theorem dX8_take_52 : decode cX8_take 52 = .ok (.iload_n 1, 1) := by decide +kernel
theorem dX8_take_53 : decode cX8_take 53 = .ok (.putfield 116, 3) := by decide +kernel
theorem dX8_take_56 : decode cX8_take 56 = .ok (.iload_n 1, 1) := by decide +kernel
theorem dX8_take_57 : decode cX8_take 57 = .ok (.ireturn, 1) := by decide +kernel
theorem dX8_nextBit_0 : decode cX8_nextBit 0 = .ok (.aload_n 0, 1) := by decide +kernel
theorem dX8_nextBit_1 : decode cX8_nextBit 1 = .ok (.getfield 122, 3) := by decide +kernel
theorem dX8_nextBit_4 : decode cX8_nextBit 4 = .ok (.bipush 8, 2) := by decide +kernel
theorem dX8_nextBit_6 : decode cX8_nextBit 6 = .ok (.aload_n 0, 1) := by decide +kernel
theorem dX8_nextBit_7 : decode cX8_nextBit 7 = .ok (.getfield 116, 3) := by decide +kernel
theorem dX8_nextBit_10 : decode cX8_nextBit 10 = .ok (.imul, 1) := by decide +kernel
theorem dX8_nextBit_11 : decode cX8_nextBit 11 = .ok (.if_icmp .lt 10, 3) := by decide +kernel
theorem dX8_nextBit_14 : decode cX8_nextBit 14 = .ok (.aload_n 0, 1) := by decide +kernel
theorem dX8_nextBit_15 : decode cX8_nextBit 15 = .ok (.iconst 1, 1) := by decide +kernel
theorem dX8_nextBit_16 : decode cX8_nextBit 16 = .ok (.putfield 124, 3) := by decide +kernel
theorem dX8_nextBit_19 : decode cX8_nextBit 19 = .ok (.iconst 1, 1) := by decide +kernel
theorem dX8_nextBit_20 : decode cX8_nextBit 20 = .ok (.ireturn, 1) := by decide +kernel
theorem dX8_nextBit_21 : decode cX8_nextBit 21 = .ok (.aload_n 0, 1) := by decide +kernel
theorem dX8_nextBit_22 : decode cX8_nextBit 22 = .ok (.getfield 31, 3) := by decide +kernel
theorem dX8_nextBit_25 : decode cX8_nextBit 25 = .ok (.aload_n 0, 1) := by decide +kernel
theorem dX8_nextBit_26 : decode cX8_nextBit 26 = .ok (.getfield 122, 3) := by decide +kernel
theorem dX8_nextBit_29 : decode cX8_nextBit 29 = .ok (.bipush 8, 2) := by decide +kernel
theorem dX8_nextBit_31 : decode cX8_nextBit 31 = .ok (.idiv, 1) := by decide +kernel
theorem dX8_nextBit_32 : decode cX8_nextBit 32 = .ok (.iaload, 1) := by decide +kernel
theorem dX8_nextBit_33 : decode cX8_nextBit 33 = .ok (.bipush 7, 2) := by decide +kernel
theorem dX8_nextBit_35 : decode cX8_nextBit 35 = .ok (.aload_n 0, 1) := by decide +kernel
theorem dX8_nextBit_36 : decode cX8_nextBit 36 = .ok (.getfield 122, 3) := by decide +kernel
theorem dX8_nextBit_39 : decode cX8_nextBit 39 = .ok (.bipush 8, 2) := by decide +kernel
theorem dX8_nextBit_41 : decode cX8_nextBit 41 = .ok (.irem, 1) := by decide +kernel
theorem dX8_nextBit_42 : decode cX8_nextBit 42 = .ok (.isub, 1) := by decide +kernel
theorem dX8_nextBit_43 : decode cX8_nextBit 43 = .ok (.ishr, 1) := by decide +kernel
theorem dX8_nextBit_44 : decode cX8_nextBit 44 = .ok (.iconst 1, 1) := by decide +kernel
theorem dX8_nextBit_45 : decode cX8_nextBit 45 = .ok (.iand, 1) := by decide +kernel
theorem dX8_nextBit_46 : decode cX8_nextBit 46 = .ok (.istore_n 1, 1) := by decide +kernel
theorem dX8_nextBit_47 : decode cX8_nextBit 47 = .ok (.aload_n 0, 1) := by decide +kernel
theorem dX8_nextBit_48 : decode cX8_nextBit 48 = .ok (.dup, 1) := by decide +kernel
theorem dX8_nextBit_49 : decode cX8_nextBit 49 = .ok (.getfield 122, 3) := by decide +kernel
theorem dX8_nextBit_52 : decode cX8_nextBit 52 = .ok (.iconst 1, 1) := by decide +kernel
theorem dX8_nextBit_53 : decode cX8_nextBit 53 = .ok (.iadd, 1) := by decide +kernel
theorem dX8_nextBit_54 : decode cX8_nextBit 54 = .ok (.putfield 122, 3) := by decide +kernel
theorem dX8_nextBit_57 : decode cX8_nextBit 57 = .ok (.iload_n 1, 1) := by decide +kernel
theorem dX8_nextBit_58 : decode cX8_nextBit 58 = .ok (.ireturn, 1) := by decide +kernel
theorem dX8_nextNumber_0 : decode cX8_nextNumber 0 = .ok (.aload_n 0, 1) := by decide +kernel
theorem dX8_nextNumber_1 : decode cX8_nextNumber 1 = .ok (.aload_n 0, 1) := by decide +kernel
theorem dX8_nextNumber_2 : decode cX8_nextNumber 2 = .ok (.getfield 122, 3) := by decide +kernel
theorem dX8_nextNumber_5 : decode cX8_nextNumber 5 = .ok (.putfield 128, 3) := by decide +kernel
theorem dX8_nextNumber_8 : decode cX8_nextNumber 8 = .ok (.iconst 0, 1) := by decide +kernel
theorem dX8_nextNumber_9 : decode cX8_nextNumber 9 = .ok (.istore_n 2, 1) := by decide +kernel
theorem dX8_nextNumber_10 : decode cX8_nextNumber 10 = .ok (.aload_n 0, 1) := by decide +kernel
theorem dX8_nextNumber_11 : decode cX8_nextNumber 11 = .ok (.invokevirtual 131, 3) := by decide +kernel
theorem dX8_nextNumber_14 : decode cX8_nextNumber 14 = .ok (.ifCond .ne 9, 3) := by decide +kernel
theorem dX8_nextNumber_17 : decode cX8_nextNumber 17 = .ok (.iinc 2 1, 3) := by decide +kernel
theorem dX8_nextNumber_20 : decode cX8_nextNumber 20 = .ok (.goto (-10), 3) := by decide +kernel
theorem dX8_nextNumber_23 : decode cX8_nextNumber 23 = .ok (.iconst 0, 1) := by decide +kernel
theorem dX8_nextNumber_24 : decode cX8_nextNumber 24 = .ok (.istore_n 3, 1) := by decide +kernel
theorem dX8_nextNumber_25 : decode cX8_nextNumber 25 = .ok (.iload_n 3, 1) := by decide +kernel
theorem dX8_nextNumber_26 : decode cX8_nextNumber 26 = .ok (.iload_n 1, 1) := by decide +kernel
theorem dX8_nextNumber_27 : decode cX8_nextNumber 27 = .ok (.if_icmp .ge 18, 3) := by decide +kernel
theorem dX8_nextNumber_30 : decode cX8_nextNumber 30 = .ok (.iconst 2, 1) := by decide +kernel
theorem dX8_nextNumber_31 : decode cX8_nextNumber 31 = .ok (.iload_n 2, 1) := by decide +kernel
theorem dX8_nextNumber_32 : decode cX8_nextNumber 32 = .ok (.imul, 1) := by decide +kernel
theorem dX8_nextNumber_33 : decode cX8_nextNumber 33 = .ok (.aload_n 0, 1) := by decide +kernel
theorem dX8_nextNumber_34 : decode cX8_nextNumber 34 = .ok (.invokevirtual 131, 3) := by decide +kernel
theorem dX8_nextNumber_37 : decode cX8_nextNumber 37 = .ok (.iadd, 1) := by decide +kernel
theorem dX8_nextNumber_38 : decode cX8_nextNumber 38 = .ok (.istore_n 2, 1) := by decide +kernel
theorem dX8_nextNumber_39 : decode cX8_nextNumber 39 = .ok (.iinc 3 1, 3) := by decide +kernel
theorem dX8_nextNumber_42 : decode cX8_nextNumber 42 = .ok (.goto (-17), 3) := by decide +kernel
theorem dX8_nextNumber_45 : decode cX8_nextNumber 45 = .ok (.iload_n 2, 1) := by decide +kernel
theorem dX8_nextNumber_46 : decode cX8_nextNumber 46 = .ok (.ireturn, 1) := by decide +kernel
theorem dX8_isGood_0 : decode cX8_isGood 0 = .ok (.aload_n 0, 1) := by decide +kernel
theorem dX8_isGood_1 : decode cX8_isGood 1 = .ok (.aload_n 0, 1) := by decide +kernel
theorem dX8_isGood_2 : decode cX8_isGood 2 = .ok (.getfield 124, 3) := by decide +kernel
theorem dX8_isGood_5 : decode cX8_isGood 5 = .ok (.ifCond .eq 13, 3) := by decide +kernel
theorem dX8_isGood_8 : decode cX8_isGood 8 = .ok (.bipush 8, 2) := by decide +kernel
theorem dX8_isGood_10 : decode cX8_isGood 10 = .ok (.aload_n 0, 1) := by decide +kernel
theorem dX8_isGood_11 : decode cX8_isGood 11 = .ok (.getfield 116, 3) := by decide +kernel
theorem dX8_isGood_14 : decode cX8_isGood 14 = .ok (.imul, 1) := by decide +kernel
theorem dX8_isGood_15 : decode cX8_isGood 15 = .ok (.goto 18, 3) := by decide +kernel
theorem dX8_isGood_18 : decode cX8_isGood 18 = .ok (.iload_n 1, 1) := by decide +kernel
theorem dX8_isGood_19 : decode cX8_isGood 19 = .ok (.ifCond .eq 10, 3) := by decide +kernel
theorem dX8_isGood_22 : decode cX8_isGood 22 = .ok (.aload_n 0, 1) := by decide +kernel
theorem dX8_isGood_23 : decode cX8_isGood 23 = .ok (.getfield 135, 3) := by decide +kernel
theorem dX8_isGood_26 : decode cX8_isGood 26 = .ok (.goto 7, 3) := by decide +kernel
theorem dX8_isGood_29 : decode cX8_isGood 29 = .ok (.aload_n 0, 1) := by decide +kernel
theorem dX8_isGood_30 : decode cX8_isGood 30 = .ok (.getfield 128, 3) := by decide +kernel
theorem dX8_isGood_33 : decode cX8_isGood 33 = .ok (.putfield 135, 3) := by decide +kernel
theorem dX8_isGood_36 : decode cX8_isGood 36 = .ok (.aload_n 0, 1) := by decide +kernel
theorem dX8_isGood_37 : decode cX8_isGood 37 = .ok (.getfield 124, 3) := by decide +kernel
theorem dX8_isGood_40 : decode cX8_isGood 40 = .ok (.ifCond .ne 11, 3) := by decide +kernel
theorem dX8_isGood_43 : decode cX8_isGood 43 = .ok (.iload_n 1, 1) := by decide +kernel
theorem dX8_isGood_44 : decode cX8_isGood 44 = .ok (.ifCond .eq 7, 3) := by decide +kernel
theorem dX8_isGood_47 : decode cX8_isGood 47 = .ok (.iconst 1, 1) := by decide +kernel
theorem dX8_isGood_48 : decode cX8_isGood 48 = .ok (.goto 4, 3) := by decide +kernel
theorem dX8_isGood_51 : decode cX8_isGood 51 = .ok (.iconst 0, 1) := by decide +kernel
theorem dX8_isGood_52 : decode cX8_isGood 52 = .ok (.ireturn, 1) := by decide +kernel
theorem dX8_hasByte_0 : decode cX8_hasByte 0 = .ok (.aload_n 0, 1) := by decide +kernel
theorem dX8_hasByte_1 : decode cX8_hasByte 1 = .ok (.aload_n 0, 1) := by decide +kernel
theorem dX8_hasByte_2 : decode cX8_hasByte 2 = .ok (.getfield 122, 3) := by decide +kernel
theorem dX8_hasByte_5 : decode cX8_hasByte 5 = .ok (.putfield 128, 3) := by decide +kernel
theorem dX8_hasByte_8 : decode cX8_hasByte 8 = .ok (.iconst 0, 1) := by decide +kernel
theorem dX8_hasByte_9 : decode cX8_hasByte 9 = .ok (.istore_n 2, 1) := by decide +kernel
theorem dX8_hasByte_10 : decode cX8_hasByte 10 = .ok (.iconst 0, 1) := by decide +kernel
theorem dX8_hasByte_11 : decode cX8_hasByte 11 = .ok (.istore_n 3, 1) := by decide +kernel
theorem dX8_hasByte_12 : decode cX8_hasByte 12 = .ok (.iload_n 3, 1) := by decide +kernel
theorem dX8_hasByte_13 : decode cX8_hasByte 13 = .ok (.bipush 8, 2) := by decide +kernel
theorem dX8_hasByte_15 : decode cX8_hasByte 15 = .ok (.if_icmp .ge 18, 3) := by decide +kernel
theorem dX8_hasByte_18 : decode cX8_hasByte 18 = .ok (.iconst 2, 1) := by decide +kernel
theorem dX8_hasByte_19 : decode cX8_hasByte 19 = .ok (.iload_n 2, 1) := by decide +kernel
theorem dX8_hasByte_20 : decode cX8_hasByte 20 = .ok (.imul, 1) := by decide +kernel
theorem dX8_hasByte_21 : decode cX8_hasByte 21 = .ok (.aload_n 0, 1) := by decide +kernel
theorem dX8_hasByte_22 : decode cX8_hasByte 22 = .ok (.invokevirtual 131, 3) := by decide +kernel
theorem dX8_hasByte_25 : decode cX8_hasByte 25 = .ok (.iadd, 1) := by decide +kernel
theorem dX8_hasByte_26 : decode cX8_hasByte 26 = .ok (.istore_n 2, 1) := by decide +kernel
theorem dX8_hasByte_27 : decode cX8_hasByte 27 = .ok (.iinc 3 1, 3) := by decide +kernel
theorem dX8_hasByte_30 : decode cX8_hasByte 30 = .ok (.goto (-18), 3) := by decide +kernel
theorem dX8_hasByte_33 : decode cX8_hasByte 33 = .ok (.aload_n 0, 1) := by decide +kernel
theorem dX8_hasByte_34 : decode cX8_hasByte 34 = .ok (.iload_n 2, 1) := by decide +kernel
theorem dX8_hasByte_35 : decode cX8_hasByte 35 = .ok (.iload_n 1, 1) := by decide +kernel
theorem dX8_hasByte_36 : decode cX8_hasByte 36 = .ok (.if_icmp .ne 7, 3) := by decide +kernel
theorem dX8_hasByte_39 : decode cX8_hasByte 39 = .ok (.iconst 1, 1) := by decide +kernel
theorem dX8_hasByte_40 : decode cX8_hasByte 40 = .ok (.goto 4, 3) := by decide +kernel
theorem dX8_hasByte_43 : decode cX8_hasByte 43 = .ok (.iconst 0, 1) := by decide +kernel
theorem dX8_hasByte_44 : decode cX8_hasByte 44 = .ok (.invokevirtual 138, 3) := by decide +kernel
theorem dX8_hasByte_47 : decode cX8_hasByte 47 = .ok (.ireturn, 1) := by decide +kernel
theorem dX8_readBlock_0 : decode cX8_readBlock 0 = .ok (.aload_n 0, 1) := by decide +kernel
theorem dX8_readBlock_1 : decode cX8_readBlock 1 = .ok (.iconst 2, 1) := by decide +kernel
theorem dX8_readBlock_2 : decode cX8_readBlock 2 = .ok (.invokevirtual 142, 3) := by decide +kernel
theorem dX8_readBlock_5 : decode cX8_readBlock 5 = .ok (.istore 5, 2) := by decide +kernel
theorem dX8_readBlock_7 : decode cX8_readBlock 7 = .ok (.aload_n 0, 1) := by decide +kernel
theorem dX8_readBlock_8 : decode cX8_readBlock 8 = .ok (.iload 5, 2) := by decide +kernel
theorem dX8_readBlock_10 : decode cX8_readBlock 10 = .ok (.iconst 4, 1) := by decide +kernel
theorem dX8_readBlock_11 : decode cX8_readBlock 11 = .ok (.if_icmp .gt 7, 3) := by decide +kernel
theorem dX8_readBlock_14 : decode cX8_readBlock 14 = .ok (.iconst 1, 1) := by decide +kernel
theorem dX8_readBlock_15 : decode cX8_readBlock 15 = .ok (.goto 4, 3) := by decide +kernel
theorem dX8_readBlock_18 : decode cX8_readBlock 18 = .ok (.iconst 0, 1) := by decide +kernel
theorem dX8_readBlock_19 : decode cX8_readBlock 19 = .ok (.invokevirtual 138, 3) := by decide +kernel
theorem dX8_readBlock_22 : decode cX8_readBlock 22 = .ok (.ifCond .ne 5, 3) := by decide +kernel
theorem dX8_readBlock_25 : decode cX8_readBlock 25 = .ok (.iconst 0, 1) := by decide +kernel
theorem dX8_readBlock_26 : decode cX8_readBlock 26 = .ok (.ireturn, 1) := by decide +kernel
theorem dX8_readBlock_27 : decode cX8_readBlock 27 = .ok (.iconst 0, 1) := by decide +kernel
theorem dX8_readBlock_28 : decode cX8_readBlock 28 = .ok (.istore 6, 2) := by decide +kernel
theorem dX8_readBlock_30 : decode cX8_readBlock 30 = .ok (.iload 5, 2) := by decide +kernel
theorem dX8_readBlock_32 : decode cX8_readBlock 32 = .ok (.iconst 4, 1) := by decide +kernel
theorem dX8_readBlock_33 : decode cX8_readBlock 33 = .ok (.if_icmp .ge 31, 3) := by decide +kernel
theorem dX8_readBlock_36 : decode cX8_readBlock 36 = .ok (.aload_n 0, 1) := by decide +kernel
theorem dX8_readBlock_37 : decode cX8_readBlock 37 = .ok (.iconst 3, 1) := by decide +kernel
theorem dX8_readBlock_38 : decode cX8_readBlock 38 = .ok (.invokevirtual 142, 3) := by decide +kernel
theorem dX8_readBlock_41 : decode cX8_readBlock 41 = .ok (.istore 6, 2) := by decide +kernel
theorem dX8_readBlock_43 : decode cX8_readBlock 43 = .ok (.aload_n 0, 1) := by decide +kernel
theorem dX8_readBlock_44 : decode cX8_readBlock 44 = .ok (.iload 6, 2) := by decide +kernel
theorem dX8_readBlock_46 : decode cX8_readBlock 46 = .ok (.bipush 15, 2) := by decide +kernel
theorem dX8_readBlock_48 : decode cX8_readBlock 48 = .ok (.if_icmp .gt 7, 3) := by decide +kernel
theorem dX8_readBlock_51 : decode cX8_readBlock 51 = .ok (.iconst 1, 1) := by decide +kernel
theorem dX8_readBlock_52 : decode cX8_readBlock 52 = .ok (.goto 4, 3) := by decide +kernel
theorem dX8_readBlock_55 : decode cX8_readBlock 55 = .ok (.iconst 0, 1) := by decide +kernel
theorem dX8_readBlock_56 : decode cX8_readBlock 56 = .ok (.invokevirtual 138, 3) := by decide +kernel
theorem dX8_readBlock_59 : decode cX8_readBlock 59 = .ok (.ifCond .ne 5, 3) := by decide +kernel
theorem dX8_readBlock_62 : decode cX8_readBlock 62 = .ok (.iconst 0, 1) := by decide +kernel
theorem dX8_readBlock_63 : decode cX8_readBlock 63 = .ok (.ireturn, 1) := by decide +kernel
theorem dX8_readBlock_64 : decode cX8_readBlock 64 = .ok (.aload_n 0, 1) := by decide +kernel
theorem dX8_readBlock_65 : decode cX8_readBlock 65 = .ok (.iload_n 3, 1) := by decide +kernel
theorem dX8_readBlock_66 : decode cX8_readBlock 66 = .ok (.invokevirtual 88, 3) := by decide +kernel
theorem dX8_readBlock_69 : decode cX8_readBlock 69 = .ok (.istore 7, 2) := by decide +kernel
theorem dX8_readBlock_71 : decode cX8_readBlock 71 = .ok (.lconst 0, 1) := by decide +kernel
theorem dX8_readBlock_72 : decode cX8_readBlock 72 = .ok (.lstore 8, 2) := by decide +kernel
theorem dX8_readBlock_74 : decode cX8_readBlock 74 = .ok (.iconst 0, 1) := by decide +kernel
theorem dX8_readBlock_75 : decode cX8_readBlock 75 = .ok (.istore 10, 2) := by decide +kernel
theorem dX8_readBlock_77 : decode cX8_readBlock 77 = .ok (.iload 10, 2) := by decide +kernel
theorem dX8_readBlock_79 : decode cX8_readBlock 79 = .ok (.iload_n 2, 1) := by decide +kernel
theorem dX8_readBlock_80 : decode cX8_readBlock 80 = .ok (.if_icmp .ge 143, 3) := by decide +kernel
theorem dX8_readBlock_83 : decode cX8_readBlock 83 = .ok (.iload_n 1, 1) := by decide +kernel
theorem dX8_readBlock_84 : decode cX8_readBlock 84 = .ok (.iload 10, 2) := by decide +kernel
theorem dX8_readBlock_86 : decode cX8_readBlock 86 = .ok (.iload 4, 2) := by decide +kernel
theorem dX8_readBlock_88 : decode cX8_readBlock 88 = .ok (.imul, 1) := by decide +kernel
theorem dX8_readBlock_89 : decode cX8_readBlock 89 = .ok (.iadd, 1) := by decide +kernel
theorem dX8_readBlock_90 : decode cX8_readBlock 90 = .ok (.istore 11, 2) := by decide +kernel
theorem dX8_readBlock_92 : decode cX8_readBlock 92 = .ok (.iload 5, 2) := by decide +kernel
theorem dX8_readBlock_94 : decode cX8_readBlock 94 = .ok (.iconst 4, 1) := by decide +kernel
theorem dX8_readBlock_95 : decode cX8_readBlock 95 = .ok (.if_icmp .ne 15, 3) := by decide +kernel
theorem dX8_readBlock_98 : decode cX8_readBlock 98 = .ok (.aload_n 0, 1) := by decide +kernel
theorem dX8_readBlock_99 : decode cX8_readBlock 99 = .ok (.getfield 37, 3) := by decide +kernel
theorem dX8_readBlock_102 : decode cX8_readBlock 102 = .ok (.iload 11, 2) := by decide +kernel
theorem dX8_readBlock_104 : decode cX8_readBlock 104 = .ok (.iload 7, 2) := by decide +kernel
theorem dX8_readBlock_106 : decode cX8_readBlock 106 = .ok (.iastore, 1) := by decide +kernel
theorem dX8_readBlock_107 : decode cX8_readBlock 107 = .ok (.goto 97, 3) := by decide +kernel
theorem dX8_readBlock_110 : decode cX8_readBlock 110 = .ok (.aload_n 0, 1) := by decide +kernel
theorem dX8_readBlock_111 : decode cX8_readBlock 111 = .ok (.iload 6, 2) := by decide +kernel
theorem dX8_readBlock_113 : decode cX8_readBlock 113 = .ok (.invokevirtual 142, 3) := by decide +kernel
theorem dX8_readBlock_116 : decode cX8_readBlock 116 = .ok (.istore 12, 2) := by decide +kernel
theorem dX8_readBlock_118 : decode cX8_readBlock 118 = .ok (.iload 12, 2) := by decide +kernel
theorem dX8_readBlock_120 : decode cX8_readBlock 120 = .ok (.iconst 2, 1) := by decide +kernel
theorem dX8_readBlock_121 : decode cX8_readBlock 121 = .ok (.irem, 1) := by decide +kernel
theorem dX8_readBlock_122 : decode cX8_readBlock 122 = .ok (.ifCond .ne 10, 3) := by decide +kernel
theorem dX8_readBlock_125 : decode cX8_readBlock 125 = .ok (.iload 12, 2) := by decide +kernel
theorem dX8_readBlock_127 : decode cX8_readBlock 127 = .ok (.iconst 2, 1) := by decide +kernel
theorem dX8_readBlock_128 : decode cX8_readBlock 128 = .ok (.idiv, 1) := by decide +kernel
theorem dX8_readBlock_129 : decode cX8_readBlock 129 = .ok (.goto 9, 3) := by decide +kernel
theorem dX8_readBlock_132 : decode cX8_readBlock 132 = .ok (.iconst (-1), 1) := by decide +kernel
theorem dX8_readBlock_133 : decode cX8_readBlock 133 = .ok (.iload 12, 2) := by decide +kernel
theorem dX8_readBlock_135 : decode cX8_readBlock 135 = .ok (.iconst 2, 1) := by decide +kernel
theorem dX8_readBlock_136 : decode cX8_readBlock 136 = .ok (.idiv, 1) := by decide +kernel
theorem dX8_readBlock_137 : decode cX8_readBlock 137 = .ok (.isub, 1) := by decide +kernel
theorem dX8_readBlock_138 : decode cX8_readBlock 138 = .ok (.istore 13, 2) := by decide +kernel
theorem dX8_readBlock_140 : decode cX8_readBlock 140 = .ok (.iload 5, 2) := by decide +kernel
theorem dX8_readBlock_142 : decode cX8_readBlock 142 = .ok (.aload_n 0, 1) := by decide +kernel
theorem dX8_readBlock_143 : decode cX8_readBlock 143 = .ok (.getfield 37, 3) := by decide +kernel
theorem dX8_readBlock_146 : decode cX8_readBlock 146 = .ok (.iload 11, 2) := by decide +kernel
theorem dX8_readBlock_148 : decode cX8_readBlock 148 = .ok (.iload 4, 2) := by decide +kernel
theorem dX8_readBlock_150 : decode cX8_readBlock 150 = .ok (.iload 7, 2) := by decide +kernel
theorem dX8_readBlock_152 : decode cX8_readBlock 152 = .ok (.invokestatic 81, 3) := by decide +kernel
theorem dX8_readBlock_155 : decode cX8_readBlock 155 = .ok (.i2l, 1) := by decide +kernel
theorem dX8_readBlock_156 : decode cX8_readBlock 156 = .ok (.iload 13, 2) := by decide +kernel
theorem dX8_readBlock_158 : decode cX8_readBlock 158 = .ok (.i2l, 1) := by decide +kernel
theorem dX8_readBlock_159 : decode cX8_readBlock 159 = .ok (.ladd, 1) := by decide +kernel
theorem dX8_readBlock_160 : decode cX8_readBlock 160 = .ok (.lstore 14, 2) := by decide +kernel
theorem dX8_readBlock_162 : decode cX8_readBlock 162 = .ok (.aload_n 0, 1) := by decide +kernel
theorem dX8_readBlock_163 : decode cX8_readBlock 163 = .ok (.lload 14, 2) := by decide +kernel
theorem dX8_readBlock_165 : decode cX8_readBlock 165 = .ok (.ldc2_w 145, 3) := by decide +kernel
theorem dX8_readBlock_168 : decode cX8_readBlock 168 = .ok (.lcmp, 1) := by decide +kernel
theorem dX8_readBlock_169 : decode cX8_readBlock 169 = .ok (.ifCond .lt 16, 3) := by decide +kernel
theorem dX8_readBlock_172 : decode cX8_readBlock 172 = .ok (.lload 14, 2) := by decide +kernel
theorem dX8_readBlock_174 : decode cX8_readBlock 174 = .ok (.ldc2_w 147, 3) := by decide +kernel
theorem dX8_readBlock_177 : decode cX8_readBlock 177 = .ok (.lcmp, 1) := by decide +kernel
theorem dX8_readBlock_178 : decode cX8_readBlock 178 = .ok (.ifCond .gt 7, 3) := by decide +kernel
theorem dX8_readBlock_181 : decode cX8_readBlock 181 = .ok (.iconst 1, 1) := by decide +kernel
theorem dX8_readBlock_182 : decode cX8_readBlock 182 = .ok (.goto 4, 3) := by decide +kernel
theorem dX8_readBlock_185 : decode cX8_readBlock 185 = .ok (.iconst 0, 1) := by decide +kernel
theorem dX8_readBlock_186 : decode cX8_readBlock 186 = .ok (.invokevirtual 138, 3) := by decide +kernel
theorem dX8_readBlock_189 : decode cX8_readBlock 189 = .ok (.ifCond .ne 5, 3) := by decide +kernel
theorem dX8_readBlock_192 : decode cX8_readBlock 192 = .ok (.iconst 0, 1) := by decide +kernel
theorem dX8_readBlock_193 : decode cX8_readBlock 193 = .ok (.ireturn, 1) := by decide +kernel
theorem dX8_readBlock_194 : decode cX8_readBlock 194 = .ok (.aload_n 0, 1) := by decide +kernel
theorem dX8_readBlock_195 : decode cX8_readBlock 195 = .ok (.getfield 37, 3) := by decide +kernel
theorem dX8_readBlock_198 : decode cX8_readBlock 198 = .ok (.iload 11, 2) := by decide +kernel
theorem dX8_readBlock_200 : decode cX8_readBlock 200 = .ok (.lload 14, 2) := by decide +kernel
theorem dX8_readBlock_202 : decode cX8_readBlock 202 = .ok (.l2i, 1) := by decide +kernel
theorem dX8_readBlock_203 : decode cX8_readBlock 203 = .ok (.iastore, 1) := by decide +kernel
theorem dX8_readBlock_204 : decode cX8_readBlock 204 = .ok (.lload 8, 2) := by decide +kernel
theorem dX8_readBlock_206 : decode cX8_readBlock 206 = .ok (.aload_n 0, 1) := by decide +kernel
theorem dX8_readBlock_207 : decode cX8_readBlock 207 = .ok (.getfield 37, 3) := by decide +kernel
theorem dX8_readBlock_210 : decode cX8_readBlock 210 = .ok (.iload 11, 2) := by decide +kernel
theorem dX8_readBlock_212 : decode cX8_readBlock 212 = .ok (.iaload, 1) := by decide +kernel
theorem dX8_readBlock_213 : decode cX8_readBlock 213 = .ok (.i2l, 1) := by decide +kernel
theorem dX8_readBlock_214 : decode cX8_readBlock 214 = .ok (.ladd, 1) := by decide +kernel
theorem dX8_readBlock_215 : decode cX8_readBlock 215 = .ok (.lstore 8, 2) := by decide +kernel
theorem dX8_readBlock_217 : decode cX8_readBlock 217 = .ok (.iinc 10 1, 3) := by decide +kernel
theorem dX8_readBlock_220 : decode cX8_readBlock 220 = .ok (.goto (-143), 3) := by decide +kernel
theorem dX8_readBlock_223 : decode cX8_readBlock 223 = .ok (.aload_n 0, 1) := by decide +kernel
theorem dX8_readBlock_224 : decode cX8_readBlock 224 = .ok (.iload_n 3, 1) := by decide +kernel
theorem dX8_readBlock_225 : decode cX8_readBlock 225 = .ok (.lload 8, 2) := by decide +kernel
theorem dX8_readBlock_227 : decode cX8_readBlock 227 = .ok (.iload_n 2, 1) := by decide +kernel
theorem dX8_readBlock_228 : decode cX8_readBlock 228 = .ok (.invokevirtual 103, 3) := by decide +kernel
theorem dX8_readBlock_231 : decode cX8_readBlock 231 = .ok (.iconst 1, 1) := by decide +kernel
theorem dX8_readBlock_232 : decode cX8_readBlock 232 = .ok (.ireturn, 1) := by decide +kernel
theorem dX8_stream_0 : decode cX8_stream 0 = .ok (.aload_n 0, 1) := by decide +kernel
theorem dX8_stream_1 : decode cX8_stream 1 = .ok (.bipush 83, 2) := by decide +kernel
theorem dX8_stream_3 : decode cX8_stream 3 = .ok (.invokevirtual 149, 3) := by decide +kernel
theorem dX8_stream_6 : decode cX8_stream 6 = .ok (.ifCond .eq 12, 3) := by decide +kernel
theorem dX8_stream_9 : decode cX8_stream 9 = .ok (.aload_n 0, 1) := by decide +kernel
theorem dX8_stream_10 : decode cX8_stream 10 = .ok (.bipush 66, 2) := by decide +kernel
theorem dX8_stream_12 : decode cX8_stream 12 = .ok (.invokevirtual 149, 3) := by decide +kernel
theorem dX8_stream_15 : decode cX8_stream 15 = .ok (.ifCond .ne 5, 3) := by decide +kernel
theorem dX8_stream_18 : decode cX8_stream 18 = .ok (.iconst (-1), 1) := by decide +kernel
theorem dX8_stream_19 : decode cX8_stream 19 = .ok (.ireturn, 1) := by decide +kernel
theorem dX8_stream_20 : decode cX8_stream 20 = .ok (.aload_n 0, 1) := by decide +kernel
theorem dX8_stream_21 : decode cX8_stream 21 = .ok (.iconst 2, 1) := by decide +kernel
theorem dX8_stream_22 : decode cX8_stream 22 = .ok (.invokevirtual 142, 3) := by decide +kernel
theorem dX8_stream_25 : decode cX8_stream 25 = .ok (.istore_n 1, 1) := by decide +kernel
theorem dX8_stream_26 : decode cX8_stream 26 = .ok (.aload_n 0, 1) := by decide +kernel
theorem dX8_stream_27 : decode cX8_stream 27 = .ok (.iload_n 1, 1) := by decide +kernel
theorem dX8_stream_28 : decode cX8_stream 28 = .ok (.iconst 1, 1) := by decide +kernel
theorem dX8_stream_29 : decode cX8_stream 29 = .ok (.if_icmp .lt 12, 3) := by decide +kernel
theorem dX8_stream_32 : decode cX8_stream 32 = .ok (.iload_n 1, 1) := by decide +kernel
theorem dX8_stream_33 : decode cX8_stream 33 = .ok (.iconst 2, 1) := by decide +kernel
theorem dX8_stream_34 : decode cX8_stream 34 = .ok (.if_icmp .gt 7, 3) := by decide +kernel
theorem dX8_stream_37 : decode cX8_stream 37 = .ok (.iconst 1, 1) := by decide +kernel
theorem dX8_stream_38 : decode cX8_stream 38 = .ok (.goto 4, 3) := by decide +kernel
theorem dX8_stream_41 : decode cX8_stream 41 = .ok (.iconst 0, 1) := by decide +kernel
theorem dX8_stream_42 : decode cX8_stream 42 = .ok (.invokevirtual 138, 3) := by decide +kernel
theorem dX8_stream_45 : decode cX8_stream 45 = .ok (.ifCond .ne 5, 3) := by decide +kernel
theorem dX8_stream_48 : decode cX8_stream 48 = .ok (.iconst (-1), 1) := by decide +kernel
theorem dX8_stream_49 : decode cX8_stream 49 = .ok (.ireturn, 1) := by decide +kernel
theorem dX8_stream_50 : decode cX8_stream 50 = .ok (.aload_n 0, 1) := by decide +kernel
theorem dX8_stream_51 : decode cX8_stream 51 = .ok (.iconst 4, 1) := by decide +kernel
theorem dX8_stream_52 : decode cX8_stream 52 = .ok (.invokevirtual 142, 3) := by decide +kernel
theorem dX8_stream_55 : decode cX8_stream 55 = .ok (.istore_n 2, 1) := by decide +kernel
theorem dX8_stream_56 : decode cX8_stream 56 = .ok (.aload_n 0, 1) := by decide +kernel
theorem dX8_stream_57 : decode cX8_stream 57 = .ok (.iload_n 2, 1) := by decide +kernel
theorem dX8_stream_58 : decode cX8_stream 58 = .ok (.iconst 1, 1) := by decide +kernel
theorem dX8_stream_59 : decode cX8_stream 59 = .ok (.if_icmp .lt 13, 3) := by decide +kernel
theorem dX8_stream_62 : decode cX8_stream 62 = .ok (.iload_n 2, 1) := by decide +kernel
theorem dX8_stream_63 : decode cX8_stream 63 = .ok (.bipush 64, 2) := by decide +kernel
theorem dX8_stream_65 : decode cX8_stream 65 = .ok (.if_icmp .gt 7, 3) := by decide +kernel
theorem dX8_stream_68 : decode cX8_stream 68 = .ok (.iconst 1, 1) := by decide +kernel
theorem dX8_stream_69 : decode cX8_stream 69 = .ok (.goto 4, 3) := by decide +kernel
theorem dX8_stream_72 : decode cX8_stream 72 = .ok (.iconst 0, 1) := by decide +kernel
theorem dX8_stream_73 : decode cX8_stream 73 = .ok (.invokevirtual 138, 3) := by decide +kernel
theorem dX8_stream_76 : decode cX8_stream 76 = .ok (.ifCond .ne 5, 3) := by decide +kernel
theorem dX8_stream_79 : decode cX8_stream 79 = .ok (.iconst (-1), 1) := by decide +kernel
theorem dX8_stream_80 : decode cX8_stream 80 = .ok (.ireturn, 1) := by decide +kernel
theorem dX8_stream_81 : decode cX8_stream 81 = .ok (.aload_n 0, 1) := by decide +kernel
theorem dX8_stream_82 : decode cX8_stream 82 = .ok (.bipush 6, 2) := by decide +kernel
theorem dX8_stream_84 : decode cX8_stream 84 = .ok (.invokevirtual 142, 3) := by decide +kernel
theorem dX8_stream_87 : decode cX8_stream 87 = .ok (.istore_n 3, 1) := by decide +kernel
theorem dX8_stream_88 : decode cX8_stream 88 = .ok (.aload_n 0, 1) := by decide +kernel
theorem dX8_stream_89 : decode cX8_stream 89 = .ok (.iload_n 3, 1) := by decide +kernel
theorem dX8_stream_90 : decode cX8_stream 90 = .ok (.sipush 400, 3) := by decide +kernel
theorem dX8_stream_93 : decode cX8_stream 93 = .ok (.if_icmp .gt 7, 3) := by decide +kernel
theorem dX8_stream_96 : decode cX8_stream 96 = .ok (.iconst 1, 1) := by decide +kernel
theorem dX8_stream_97 : decode cX8_stream 97 = .ok (.goto 4, 3) := by decide +kernel
theorem dX8_stream_100 : decode cX8_stream 100 = .ok (.iconst 0, 1) := by decide +kernel
theorem dX8_stream_101 : decode cX8_stream 101 = .ok (.invokevirtual 138, 3) := by decide +kernel
theorem dX8_stream_104 : decode cX8_stream 104 = .ok (.ifCond .ne 5, 3) := by decide +kernel
theorem dX8_stream_107 : decode cX8_stream 107 = .ok (.iconst (-1), 1) := by decide +kernel
theorem dX8_stream_108 : decode cX8_stream 108 = .ok (.ireturn, 1) := by decide +kernel
theorem dX8_stream_109 : decode cX8_stream 109 = .ok (.aload_n 0, 1) := by decide +kernel
theorem dX8_stream_110 : decode cX8_stream 110 = .ok (.invokevirtual 110, 3) := by decide +kernel
theorem dX8_stream_113 : decode cX8_stream 113 = .ok (.iconst 0, 1) := by decide +kernel
theorem dX8_stream_114 : decode cX8_stream 114 = .ok (.istore 4, 2) := by decide +kernel
theorem dX8_stream_116 : decode cX8_stream 116 = .ok (.iload 4, 2) := by decide +kernel
theorem dX8_stream_118 : decode cX8_stream 118 = .ok (.iload_n 3, 1) := by decide +kernel
theorem dX8_stream_119 : decode cX8_stream 119 = .ok (.if_icmp .ge 66, 3) := by decide +kernel
theorem dX8_stream_122 : decode cX8_stream 122 = .ok (.iconst 0, 1) := by decide +kernel
theorem dX8_stream_123 : decode cX8_stream 123 = .ok (.istore 5, 2) := by decide +kernel
theorem dX8_stream_125 : decode cX8_stream 125 = .ok (.iload 5, 2) := by decide +kernel
theorem dX8_stream_127 : decode cX8_stream 127 = .ok (.iload_n 1, 1) := by decide +kernel
theorem dX8_stream_128 : decode cX8_stream 128 = .ok (.if_icmp .ge 48, 3) := by decide +kernel
theorem dX8_stream_131 : decode cX8_stream 131 = .ok (.iload_n 3, 1) := by decide +kernel
theorem dX8_stream_132 : decode cX8_stream 132 = .ok (.iload 4, 2) := by decide +kernel
theorem dX8_stream_134 : decode cX8_stream 134 = .ok (.isub, 1) := by decide +kernel
theorem dX8_stream_135 : decode cX8_stream 135 = .ok (.iload_n 2, 1) := by decide +kernel
theorem dX8_stream_136 : decode cX8_stream 136 = .ok (.if_icmp .ge 10, 3) := by decide +kernel
theorem dX8_stream_139 : decode cX8_stream 139 = .ok (.iload_n 3, 1) := by decide +kernel
theorem dX8_stream_140 : decode cX8_stream 140 = .ok (.iload 4, 2) := by decide +kernel
theorem dX8_stream_142 : decode cX8_stream 142 = .ok (.isub, 1) := by decide +kernel
theorem dX8_stream_143 : decode cX8_stream 143 = .ok (.goto 4, 3) := by decide +kernel
theorem dX8_stream_146 : decode cX8_stream 146 = .ok (.iload_n 2, 1) := by decide +kernel
theorem dX8_stream_147 : decode cX8_stream 147 = .ok (.istore 6, 2) := by decide +kernel
theorem dX8_stream_149 : decode cX8_stream 149 = .ok (.aload_n 0, 1) := by decide +kernel
theorem dX8_stream_150 : decode cX8_stream 150 = .ok (.iload 4, 2) := by decide +kernel
theorem dX8_stream_152 : decode cX8_stream 152 = .ok (.iload_n 1, 1) := by decide +kernel
theorem dX8_stream_153 : decode cX8_stream 153 = .ok (.imul, 1) := by decide +kernel
theorem dX8_stream_154 : decode cX8_stream 154 = .ok (.iload 5, 2) := by decide +kernel
theorem dX8_stream_156 : decode cX8_stream 156 = .ok (.iadd, 1) := by decide +kernel
theorem dX8_stream_157 : decode cX8_stream 157 = .ok (.iload 6, 2) := by decide +kernel
theorem dX8_stream_159 : decode cX8_stream 159 = .ok (.iload 5, 2) := by decide +kernel
theorem dX8_stream_161 : decode cX8_stream 161 = .ok (.iload_n 1, 1) := by decide +kernel
theorem dX8_stream_162 : decode cX8_stream 162 = .ok (.invokevirtual 153, 3) := by decide +kernel
theorem dX8_stream_165 : decode cX8_stream 165 = .ok (.ifCond .ne 5, 3) := by decide +kernel
theorem dX8_stream_168 : decode cX8_stream 168 = .ok (.iconst (-1), 1) := by decide +kernel
theorem dX8_stream_169 : decode cX8_stream 169 = .ok (.ireturn, 1) := by decide +kernel
theorem dX8_stream_170 : decode cX8_stream 170 = .ok (.iinc 5 1, 3) := by decide +kernel
theorem dX8_stream_173 : decode cX8_stream 173 = .ok (.goto (-48), 3) := by decide +kernel
theorem dX8_stream_176 : decode cX8_stream 176 = .ok (.iload 4, 2) := by decide +kernel
theorem dX8_stream_178 : decode cX8_stream 178 = .ok (.iload_n 2, 1) := by decide +kernel
theorem dX8_stream_179 : decode cX8_stream 179 = .ok (.iadd, 1) := by decide +kernel
theorem dX8_stream_180 : decode cX8_stream 180 = .ok (.istore 4, 2) := by decide +kernel
theorem dX8_stream_182 : decode cX8_stream 182 = .ok (.goto (-66), 3) := by decide +kernel
theorem dX8_stream_185 : decode cX8_stream 185 = .ok (.aload_n 0, 1) := by decide +kernel
theorem dX8_stream_186 : decode cX8_stream 186 = .ok (.aload_n 0, 1) := by decide +kernel
theorem dX8_stream_187 : decode cX8_stream 187 = .ok (.iconst 2, 1) := by decide +kernel
theorem dX8_stream_188 : decode cX8_stream 188 = .ok (.invokevirtual 142, 3) := by decide +kernel
theorem dX8_stream_191 : decode cX8_stream 191 = .ok (.iconst 5, 1) := by decide +kernel
theorem dX8_stream_192 : decode cX8_stream 192 = .ok (.if_icmp .ne 7, 3) := by decide +kernel
theorem dX8_stream_195 : decode cX8_stream 195 = .ok (.iconst 1, 1) := by decide +kernel
theorem dX8_stream_196 : decode cX8_stream 196 = .ok (.goto 4, 3) := by decide +kernel
theorem dX8_stream_199 : decode cX8_stream 199 = .ok (.iconst 0, 1) := by decide +kernel
theorem dX8_stream_200 : decode cX8_stream 200 = .ok (.invokevirtual 138, 3) := by decide +kernel
theorem dX8_stream_203 : decode cX8_stream 203 = .ok (.ifCond .ne 5, 3) := by decide +kernel
theorem dX8_stream_206 : decode cX8_stream 206 = .ok (.iconst (-1), 1) := by decide +kernel
theorem dX8_stream_207 : decode cX8_stream 207 = .ok (.ireturn, 1) := by decide +kernel
theorem dX8_stream_208 : decode cX8_stream 208 = .ok (.aload_n 0, 1) := by decide +kernel
theorem dX8_stream_209 : decode cX8_stream 209 = .ok (.getfield 122, 3) := by decide +kernel
theorem dX8_stream_212 : decode cX8_stream 212 = .ok (.bipush 8, 2) := by decide +kernel
theorem dX8_stream_214 : decode cX8_stream 214 = .ok (.irem, 1) := by decide +kernel
theorem dX8_stream_215 : decode cX8_stream 215 = .ok (.ifCond .eq 32, 3) := by decide +kernel
theorem dX8_stream_218 : decode cX8_stream 218 = .ok (.aload_n 0, 1) := by decide +kernel
theorem dX8_stream_219 : decode cX8_stream 219 = .ok (.aload_n 0, 1) := by decide +kernel
theorem dX8_stream_220 : decode cX8_stream 220 = .ok (.getfield 122, 3) := by decide +kernel
theorem dX8_stream_223 : decode cX8_stream 223 = .ok (.putfield 128, 3) := by decide +kernel
theorem dX8_stream_226 : decode cX8_stream 226 = .ok (.aload_n 0, 1) := by decide +kernel
theorem dX8_stream_227 : decode cX8_stream 227 = .ok (.aload_n 0, 1) := by decide +kernel
theorem dX8_stream_228 : decode cX8_stream 228 = .ok (.invokevirtual 131, 3) := by decide +kernel
theorem dX8_stream_231 : decode cX8_stream 231 = .ok (.ifCond .ne 7, 3) := by decide +kernel
theorem dX8_stream_234 : decode cX8_stream 234 = .ok (.iconst 1, 1) := by decide +kernel
theorem dX8_stream_235 : decode cX8_stream 235 = .ok (.goto 4, 3) := by decide +kernel
theorem dX8_stream_238 : decode cX8_stream 238 = .ok (.iconst 0, 1) := by decide +kernel
theorem dX8_stream_239 : decode cX8_stream 239 = .ok (.invokevirtual 138, 3) := by decide +kernel
theorem dX8_stream_242 : decode cX8_stream 242 = .ok (.ifCond .ne (-34), 3) := by decide +kernel
theorem dX8_stream_245 : decode cX8_stream 245 = .ok (.iconst (-1), 1) := by decide +kernel
theorem dX8_stream_246 : decode cX8_stream 246 = .ok (.ireturn, 1) := by decide +kernel
theorem dX8_stream_247 : decode cX8_stream 247 = .ok (.aload_n 0, 1) := by decide +kernel
theorem dX8_stream_248 : decode cX8_stream 248 = .ok (.aload_n 0, 1) := by decide +kernel
theorem dX8_stream_249 : decode cX8_stream 249 = .ok (.getfield 122, 3) := by decide +kernel
theorem dX8_stream_252 : decode cX8_stream 252 = .ok (.putfield 128, 3) := by decide +kernel
theorem dX8_stream_255 : decode cX8_stream 255 = .ok (.aload_n 0, 1) := by decide +kernel
theorem dX8_stream_256 : decode cX8_stream 256 = .ok (.getfield 122, 3) := by decide +kernel
theorem dX8_stream_259 : decode cX8_stream 259 = .ok (.bipush 8, 2) := by decide +kernel
theorem dX8_stream_261 : decode cX8_stream 261 = .ok (.aload_n 0, 1) := by decide +kernel
theorem dX8_stream_262 : decode cX8_stream 262 = .ok (.getfield 116, 3) := by decide +kernel
theorem dX8_stream_265 : decode cX8_stream 265 = .ok (.imul, 1) := by decide +kernel
theorem dX8_stream_266 : decode cX8_stream 266 = .ok (.if_icmp .ge 13, 3) := by decide +kernel
theorem dX8_stream_269 : decode cX8_stream 269 = .ok (.aload_n 0, 1) := by decide +kernel
theorem dX8_stream_270 : decode cX8_stream 270 = .ok (.aload_n 0, 1) := by decide +kernel
theorem dX8_stream_271 : decode cX8_stream 271 = .ok (.getfield 122, 3) := by decide +kernel
theorem dX8_stream_274 : decode cX8_stream 274 = .ok (.putfield 135, 3) := by decide +kernel
theorem dX8_stream_277 : decode cX8_stream 277 = .ok (.iconst (-1), 1) := by decide +kernel
theorem dX8_stream_278 : decode cX8_stream 278 = .ok (.ireturn, 1) := by decide +kernel
theorem dX8_stream_279 : decode cX8_stream 279 = .ok (.aload_n 0, 1) := by decide +kernel
theorem dX8_stream_280 : decode cX8_stream 280 = .ok (.iload_n 1, 1) := by decide +kernel
theorem dX8_stream_281 : decode cX8_stream 281 = .ok (.putfield 157, 3) := by decide +kernel
theorem dX8_stream_284 : decode cX8_stream 284 = .ok (.iload_n 3, 1) := by decide +kernel
theorem dX8_stream_285 : decode cX8_stream 285 = .ok (.iload_n 1, 1) := by decide +kernel
theorem dX8_stream_286 : decode cX8_stream 286 = .ok (.imul, 1) := by decide +kernel
theorem dX8_stream_287 : decode cX8_stream 287 = .ok (.ireturn, 1) := by decide +kernel
theorem dX8_read_0 : decode cX8_read 0 = .ok (.aload_n 0, 1) := by decide +kernel
theorem dX8_read_1 : decode cX8_read 1 = .ok (.iconst 0, 1) := by decide +kernel
theorem dX8_read_2 : decode cX8_read 2 = .ok (.putfield 122, 3) := by decide +kernel
theorem dX8_read_5 : decode cX8_read 5 = .ok (.aload_n 0, 1) := by decide +kernel
theorem dX8_read_6 : decode cX8_read 6 = .ok (.iconst 0, 1) := by decide +kernel
theorem dX8_read_7 : decode cX8_read 7 = .ok (.putfield 124, 3) := by decide +kernel
theorem dX8_read_10 : decode cX8_read 10 = .ok (.aload_n 0, 1) := by decide +kernel
theorem dX8_read_11 : decode cX8_read 11 = .ok (.invokevirtual 160, 3) := by decide +kernel
theorem dX8_read_14 : decode cX8_read 14 = .ok (.istore_n 1, 1) := by decide +kernel
theorem dX8_read_15 : decode cX8_read 15 = .ok (.iload_n 1, 1) := by decide +kernel
theorem dX8_read_16 : decode cX8_read 16 = .ok (.ifCond .lt 33, 3) := by decide +kernel
theorem dX8_read_19 : decode cX8_read 19 = .ok (.aload_n 0, 1) := by decide +kernel
theorem dX8_read_20 : decode cX8_read 20 = .ok (.iload_n 1, 1) := by decide +kernel
theorem dX8_read_21 : decode cX8_read 21 = .ok (.putfield 163, 3) := by decide +kernel
theorem dX8_read_24 : decode cX8_read 24 = .ok (.iconst 0, 1) := by decide +kernel
theorem dX8_read_25 : decode cX8_read 25 = .ok (.istore_n 2, 1) := by decide +kernel
theorem dX8_read_26 : decode cX8_read 26 = .ok (.iload_n 2, 1) := by decide +kernel
theorem dX8_read_27 : decode cX8_read 27 = .ok (.iload_n 1, 1) := by decide +kernel
theorem dX8_read_28 : decode cX8_read 28 = .ok (.if_icmp .ge 21, 3) := by decide +kernel
theorem dX8_read_31 : decode cX8_read 31 = .ok (.aload_n 0, 1) := by decide +kernel
theorem dX8_read_32 : decode cX8_read 32 = .ok (.getfield 34, 3) := by decide +kernel
theorem dX8_read_35 : decode cX8_read 35 = .ok (.iload_n 2, 1) := by decide +kernel
theorem dX8_read_36 : decode cX8_read 36 = .ok (.aload_n 0, 1) := by decide +kernel
theorem dX8_read_37 : decode cX8_read 37 = .ok (.getfield 37, 3) := by decide +kernel
theorem dX8_read_40 : decode cX8_read 40 = .ok (.iload_n 2, 1) := by decide +kernel
theorem dX8_read_41 : decode cX8_read 41 = .ok (.iaload, 1) := by decide +kernel
theorem dX8_read_42 : decode cX8_read 42 = .ok (.iastore, 1) := by decide +kernel
theorem dX8_read_43 : decode cX8_read 43 = .ok (.iinc 2 1, 3) := by decide +kernel
theorem dX8_read_46 : decode cX8_read 46 = .ok (.goto (-20), 3) := by decide +kernel
theorem dX8_read_49 : decode cX8_read 49 = .ok (.aload_n 0, 1) := by decide +kernel
theorem dX8_read_50 : decode cX8_read 50 = .ok (.iconst 0, 1) := by decide +kernel
theorem dX8_read_51 : decode cX8_read 51 = .ok (.putfield 116, 3) := by decide +kernel
theorem dX8_read_54 : decode cX8_read 54 = .ok (.iload_n 1, 1) := by decide +kernel
theorem dX8_read_55 : decode cX8_read 55 = .ok (.ifCond .lt 7, 3) := by decide +kernel
theorem dX8_read_58 : decode cX8_read 58 = .ok (.iload_n 1, 1) := by decide +kernel
theorem dX8_read_59 : decode cX8_read 59 = .ok (.goto 9, 3) := by decide +kernel
theorem dX8_read_62 : decode cX8_read 62 = .ok (.iconst (-1), 1) := by decide +kernel
theorem dX8_read_63 : decode cX8_read 63 = .ok (.aload_n 0, 1) := by decide +kernel
theorem dX8_read_64 : decode cX8_read 64 = .ok (.getfield 135, 3) := by decide +kernel
theorem dX8_read_67 : decode cX8_read 67 = .ok (.isub, 1) := by decide +kernel
theorem dX8_read_68 : decode cX8_read 68 = .ok (.ireturn, 1) := by decide +kernel
theorem dX8_value_0 : decode cX8_value 0 = .ok (.iload_n 1, 1) := by decide +kernel
theorem dX8_value_1 : decode cX8_value 1 = .ok (.ifCond .lt 11, 3) := by decide +kernel
theorem dX8_value_4 : decode cX8_value 4 = .ok (.iload_n 1, 1) := by decide +kernel
theorem dX8_value_5 : decode cX8_value 5 = .ok (.aload_n 0, 1) := by decide +kernel
theorem dX8_value_6 : decode cX8_value 6 = .ok (.getfield 163, 3) := by decide +kernel
theorem dX8_value_9 : decode cX8_value 9 = .ok (.if_icmp .lt 8, 3) := by decide +kernel
theorem dX8_value_12 : decode cX8_value 12 = .ok (.ldc 166, 2) := by decide +kernel
theorem dX8_value_14 : decode cX8_value 14 = .ok (.goto 9, 3) := by decide +kernel
theorem dX8_value_17 : decode cX8_value 17 = .ok (.aload_n 0, 1) := by decide +kernel
theorem dX8_value_18 : decode cX8_value 18 = .ok (.getfield 34, 3) := by decide +kernel
theorem dX8_value_21 : decode cX8_value 21 = .ok (.iload_n 1, 1) := by decide +kernel
theorem dX8_value_22 : decode cX8_value 22 = .ok (.iaload, 1) := by decide +kernel
theorem dX8_value_23 : decode cX8_value 23 = .ok (.ireturn, 1) := by decide +kernel
theorem dX8_same_0 : decode cX8_same 0 = .ok (.aload_n 0, 1) := by decide +kernel
theorem dX8_same_1 : decode cX8_same 1 = .ok (.getfield 43, 3) := by decide +kernel
theorem dX8_same_4 : decode cX8_same 4 = .ok (.aload_n 0, 1) := by decide +kernel
theorem dX8_same_5 : decode cX8_same 5 = .ok (.getfield 7, 3) := by decide +kernel
theorem dX8_same_8 : decode cX8_same 8 = .ok (.idiv, 1) := by decide +kernel
theorem dX8_same_9 : decode cX8_same 9 = .ok (.aload_n 0, 1) := by decide +kernel
theorem dX8_same_10 : decode cX8_same 10 = .ok (.getfield 7, 3) := by decide +kernel
theorem dX8_same_13 : decode cX8_same 13 = .ok (.imul, 1) := by decide +kernel
theorem dX8_same_14 : decode cX8_same 14 = .ok (.istore_n 1, 1) := by decide +kernel
theorem dX8_same_15 : decode cX8_same 15 = .ok (.aload_n 0, 1) := by decide +kernel
theorem dX8_same_16 : decode cX8_same 16 = .ok (.getfield 7, 3) := by decide +kernel
theorem dX8_same_19 : decode cX8_same 19 = .ok (.aload_n 0, 1) := by decide +kernel
theorem dX8_same_20 : decode cX8_same 20 = .ok (.getfield 157, 3) := by decide +kernel
theorem dX8_same_23 : decode cX8_same 23 = .ok (.if_icmp .ne 15, 3) := by decide +kernel
theorem dX8_same_26 : decode cX8_same 26 = .ok (.iload_n 1, 1) := by decide +kernel
theorem dX8_same_27 : decode cX8_same 27 = .ok (.aload_n 0, 1) := by decide +kernel
theorem dX8_same_28 : decode cX8_same 28 = .ok (.getfield 163, 3) := by decide +kernel
theorem dX8_same_31 : decode cX8_same 31 = .ok (.if_icmp .ne 7, 3) := by decide +kernel
theorem dX8_same_34 : decode cX8_same 34 = .ok (.iconst 1, 1) := by decide +kernel
theorem dX8_same_35 : decode cX8_same 35 = .ok (.goto 4, 3) := by decide +kernel
theorem dX8_same_38 : decode cX8_same 38 = .ok (.iconst 0, 1) := by decide +kernel
theorem dX8_same_39 : decode cX8_same 39 = .ok (.istore_n 2, 1) := by decide +kernel
theorem dX8_same_40 : decode cX8_same 40 = .ok (.iconst 0, 1) := by decide +kernel
theorem dX8_same_41 : decode cX8_same 41 = .ok (.istore_n 3, 1) := by decide +kernel
theorem dX8_same_42 : decode cX8_same 42 = .ok (.iload_n 3, 1) := by decide +kernel
theorem dX8_same_43 : decode cX8_same 43 = .ok (.iload_n 1, 1) := by decide +kernel
theorem dX8_same_44 : decode cX8_same 44 = .ok (.if_icmp .ge 34, 3) := by decide +kernel
theorem dX8_same_47 : decode cX8_same 47 = .ok (.iload_n 2, 1) := by decide +kernel
theorem dX8_same_48 : decode cX8_same 48 = .ok (.ifCond .eq 30, 3) := by decide +kernel
theorem dX8_same_51 : decode cX8_same 51 = .ok (.aload_n 0, 1) := by decide +kernel
theorem dX8_same_52 : decode cX8_same 52 = .ok (.getfield 16, 3) := by decide +kernel
theorem dX8_same_55 : decode cX8_same 55 = .ok (.iload_n 3, 1) := by decide +kernel
theorem dX8_same_56 : decode cX8_same 56 = .ok (.iaload, 1) := by decide +kernel
theorem dX8_same_57 : decode cX8_same 57 = .ok (.aload_n 0, 1) := by decide +kernel
theorem dX8_same_58 : decode cX8_same 58 = .ok (.getfield 34, 3) := by decide +kernel
theorem dX8_same_61 : decode cX8_same 61 = .ok (.iload_n 3, 1) := by decide +kernel
theorem dX8_same_62 : decode cX8_same 62 = .ok (.iaload, 1) := by decide +kernel
theorem dX8_same_63 : decode cX8_same 63 = .ok (.if_icmp .ne 7, 3) := by decide +kernel
theorem dX8_same_66 : decode cX8_same 66 = .ok (.iconst 1, 1) := by decide +kernel
theorem dX8_same_67 : decode cX8_same 67 = .ok (.goto 4, 3) := by decide +kernel
theorem dX8_same_70 : decode cX8_same 70 = .ok (.iconst 0, 1) := by decide +kernel
theorem dX8_same_71 : decode cX8_same 71 = .ok (.istore_n 2, 1) := by decide +kernel
theorem dX8_same_72 : decode cX8_same 72 = .ok (.iinc 3 1, 3) := by decide +kernel
theorem dX8_same_75 : decode cX8_same 75 = .ok (.goto (-33), 3) := by decide +kernel
theorem dX8_same_78 : decode cX8_same 78 = .ok (.iload_n 2, 1) := by decide +kernel
theorem dX8_same_79 : decode cX8_same 79 = .ok (.ireturn, 1) := by decide +kernel
theorem dX8_count_0 : decode cX8_count 0 = .ok (.iload_n 1, 1) := by decide +kernel
theorem dX8_count_1 : decode cX8_count 1 = .ok (.tableswitch 72 0 5 #[39, 44, 52, 57, 62, 67], 39) := by decide +kernel
theorem dX8_count_40 : decode cX8_count 40 = .ok (.aload_n 0, 1) := by decide +kernel
theorem dX8_count_41 : decode cX8_count 41 = .ok (.getfield 43, 3) := by decide +kernel
theorem dX8_count_44 : decode cX8_count 44 = .ok (.ireturn, 1) := by decide +kernel
theorem dX8_count_45 : decode cX8_count 45 = .ok (.aload_n 0, 1) := by decide +kernel
theorem dX8_count_46 : decode cX8_count 46 = .ok (.getfield 54, 3) := by decide +kernel
theorem dX8_count_49 : decode cX8_count 49 = .ok (.bipush 8, 2) := by decide +kernel
theorem dX8_count_51 : decode cX8_count 51 = .ok (.idiv, 1) := by decide +kernel
theorem dX8_count_52 : decode cX8_count 52 = .ok (.ireturn, 1) := by decide +kernel
theorem dX8_count_53 : decode cX8_count 53 = .ok (.aload_n 0, 1) := by decide +kernel
theorem dX8_count_54 : decode cX8_count 54 = .ok (.getfield 107, 3) := by decide +kernel
theorem dX8_count_57 : decode cX8_count 57 = .ok (.ireturn, 1) := by decide +kernel
theorem dX8_count_58 : decode cX8_count 58 = .ok (.aload_n 0, 1) := by decide +kernel
theorem dX8_count_59 : decode cX8_count 59 = .ok (.getfield 116, 3) := by decide +kernel
theorem dX8_count_62 : decode cX8_count 62 = .ok (.ireturn, 1) := by decide +kernel
theorem dX8_count_63 : decode cX8_count 63 = .ok (.aload_n 0, 1) := by decide +kernel
theorem dX8_count_64 : decode cX8_count 64 = .ok (.getfield 163, 3) := by decide +kernel
theorem dX8_count_67 : decode cX8_count 67 = .ok (.ireturn, 1) := by decide +kernel
theorem dX8_count_68 : decode cX8_count 68 = .ok (.aload_n 0, 1) := by decide +kernel
theorem dX8_count_69 : decode cX8_count 69 = .ok (.getfield 157, 3) := by decide +kernel
theorem dX8_count_72 : decode cX8_count 72 = .ok (.ireturn, 1) := by decide +kernel
theorem dX8_count_73 : decode cX8_count 73 = .ok (.iconst (-1), 1) := by decide +kernel
theorem dX8_count_74 : decode cX8_count 74 = .ok (.ireturn, 1) := by decide +kernel
