theorem dX5_parseFilling_83 : decode cX5_parseFilling 83 = .ok (.aload_n 0, 1) := by decide +kernel
theorem dX5_parseFilling_84 : decode cX5_parseFilling 84 = .ok (.getfield 21, 3) := by decide +kernel
theorem dX5_parseFilling_87 : decode cX5_parseFilling 87 = .ok (.getfield 111, 3) := by decide +kernel
theorem dX5_parseFilling_90 : decode cX5_parseFilling 90 = .ok (.if_icmp .ge 14, 3) := by decide +kernel
theorem dX5_parseFilling_93 : decode cX5_parseFilling 93 = .ok (.aload_n 0, 1) := by decide +kernel
theorem dX5_parseFilling_94 : decode cX5_parseFilling 94 = .ok (.aload_n 0, 1) := by decide +kernel
theorem dX5_parseFilling_95 : decode cX5_parseFilling 95 = .ok (.getfield 21, 3) := by decide +kernel
theorem dX5_parseFilling_98 : decode cX5_parseFilling 98 = .ok (.getfield 87, 3) := by decide +kernel
theorem dX5_parseFilling_101 : decode cX5_parseFilling 101 = .ok (.putfield 37, 3) := by decide +kernel
theorem dX5_parseFilling_104 : decode cX5_parseFilling 104 = .ok (.return_, 1) := by decide +kernel
theorem dX5_nextByte_0 : decode cX5_nextByte 0 = .ok (.aload_n 0, 1) := by decide +kernel
theorem dX5_nextByte_1 : decode cX5_nextByte 1 = .ok (.getfield 21, 3) := by decide +kernel
theorem dX5_nextByte_4 : decode cX5_nextByte 4 = .ok (.getfield 87, 3) := by decide +kernel
theorem dX5_nextByte_7 : decode cX5_nextByte 7 = .ok (.istore_n 2, 1) := by decide +kernel
theorem dX5_nextByte_8 : decode cX5_nextByte 8 = .ok (.aload_n 0, 1) := by decide +kernel
theorem dX5_nextByte_9 : decode cX5_nextByte 9 = .ok (.invokevirtual 47, 3) := by decide +kernel
theorem dX5_nextByte_12 : decode cX5_nextByte 12 = .ok (.ifCond .eq 19, 3) := by decide +kernel
theorem dX5_nextByte_15 : decode cX5_nextByte 15 = .ok (.aload_n 0, 1) := by decide +kernel
theorem dX5_nextByte_16 : decode cX5_nextByte 16 = .ok (.iload_n 2, 1) := by decide +kernel
theorem dX5_nextByte_17 : decode cX5_nextByte 17 = .ok (.aload_n 0, 1) := by decide +kernel
theorem dX5_nextByte_18 : decode cX5_nextByte 18 = .ok (.getfield 21, 3) := by decide +kernel
theorem dX5_nextByte_21 : decode cX5_nextByte 21 = .ok (.bipush 8, 2) := by decide +kernel
theorem dX5_nextByte_23 : decode cX5_nextByte 23 = .ok (.invokevirtual 114, 3) := by decide +kernel
theorem dX5_nextByte_26 : decode cX5_nextByte 26 = .ok (.iload_n 1, 1) := by decide +kernel
theorem dX5_nextByte_27 : decode cX5_nextByte 27 = .ok (.iload_n 1, 1) := by decide +kernel
theorem dX5_nextByte_28 : decode cX5_nextByte 28 = .ok (.invokevirtual 117, 3) := by decide +kernel
theorem dX5_nextByte_31 : decode cX5_nextByte 31 = .ok (.return_, 1) := by decide +kernel
theorem dX5_nextWithin_0 : decode cX5_nextWithin 0 = .ok (.aload_n 0, 1) := by decide +kernel
theorem dX5_nextWithin_1 : decode cX5_nextWithin 1 = .ok (.invokevirtual 47, 3) := by decide +kernel
theorem dX5_nextWithin_4 : decode cX5_nextWithin 4 = .ok (.ifCond .ne 5, 3) := by decide +kernel
theorem dX5_nextWithin_7 : decode cX5_nextWithin 7 = .ok (.iload_n 2, 1) := by decide +kernel
theorem dX5_nextWithin_8 : decode cX5_nextWithin 8 = .ok (.ireturn, 1) := by decide +kernel
theorem dX5_nextWithin_9 : decode cX5_nextWithin 9 = .ok (.aload_n 0, 1) := by decide +kernel
theorem dX5_nextWithin_10 : decode cX5_nextWithin 10 = .ok (.getfield 21, 3) := by decide +kernel
theorem dX5_nextWithin_13 : decode cX5_nextWithin 13 = .ok (.getfield 87, 3) := by decide +kernel
theorem dX5_nextWithin_16 : decode cX5_nextWithin 16 = .ok (.istore 4, 2) := by decide +kernel
theorem dX5_nextWithin_18 : decode cX5_nextWithin 18 = .ok (.aload_n 0, 1) := by decide +kernel
theorem dX5_nextWithin_19 : decode cX5_nextWithin 19 = .ok (.getfield 21, 3) := by decide +kernel
theorem dX5_nextWithin_22 : decode cX5_nextWithin 22 = .ok (.iload_n 1, 1) := by decide +kernel
theorem dX5_nextWithin_23 : decode cX5_nextWithin 23 = .ok (.invokevirtual 121, 3) := by decide +kernel
theorem dX5_nextWithin_26 : decode cX5_nextWithin 26 = .ok (.istore 5, 2) := by decide +kernel
theorem dX5_nextWithin_28 : decode cX5_nextWithin 28 = .ok (.aload_n 0, 1) := by decide +kernel
theorem dX5_nextWithin_29 : decode cX5_nextWithin 29 = .ok (.iload 4, 2) := by decide +kernel
theorem dX5_nextWithin_31 : decode cX5_nextWithin 31 = .ok (.iload 5, 2) := by decide +kernel
theorem dX5_nextWithin_33 : decode cX5_nextWithin 33 = .ok (.iload_n 2, 1) := by decide +kernel
theorem dX5_nextWithin_34 : decode cX5_nextWithin 34 = .ok (.iload_n 3, 1) := by decide +kernel
theorem dX5_nextWithin_35 : decode cX5_nextWithin 35 = .ok (.invokevirtual 117, 3) := by decide +kernel
theorem dX5_nextWithin_38 : decode cX5_nextWithin 38 = .ok (.aload_n 0, 1) := by decide +kernel
theorem dX5_nextWithin_39 : decode cX5_nextWithin 39 = .ok (.invokevirtual 47, 3) := by decide +kernel
theorem dX5_nextWithin_42 : decode cX5_nextWithin 42 = .ok (.ifCond .eq 8, 3) := by decide +kernel
theorem dX5_nextWithin_45 : decode cX5_nextWithin 45 = .ok (.iload 5, 2) := by decide +kernel
theorem dX5_nextWithin_47 : decode cX5_nextWithin 47 = .ok (.goto 4, 3) := by decide +kernel
theorem dX5_nextWithin_50 : decode cX5_nextWithin 50 = .ok (.iload_n 2, 1) := by decide +kernel
theorem dX5_nextWithin_51 : decode cX5_nextWithin 51 = .ok (.ireturn, 1) := by decide +kernel
theorem dX5_judge_0 : decode cX5_judge 0 = .ok (.iload_n 2, 1) := by decide +kernel
theorem dX5_judge_1 : decode cX5_judge 1 = .ok (.iconst (-1), 1) := by decide +kernel
theorem dX5_judge_2 : decode cX5_judge 2 = .ok (.if_icmp .ne 17, 3) := by decide +kernel
theorem dX5_judge_5 : decode cX5_judge 5 = .ok (.aload_n 0, 1) := by decide +kernel
theorem dX5_judge_6 : decode cX5_judge 6 = .ok (.aload_n 0, 1) := by decide +kernel
theorem dX5_judge_7 : decode cX5_judge 7 = .ok (.getfield 21, 3) := by decide +kernel
theorem dX5_judge_10 : decode cX5_judge 10 = .ok (.getfield 111, 3) := by decide +kernel
theorem dX5_judge_13 : decode cX5_judge 13 = .ok (.putfield 37, 3) := by decide +kernel
theorem dX5_judge_16 : decode cX5_judge 16 = .ok (.goto 19, 3) := by decide +kernel
theorem dX5_judge_19 : decode cX5_judge 19 = .ok (.iload_n 2, 1) := by decide +kernel
theorem dX5_judge_20 : decode cX5_judge 20 = .ok (.iload_n 3, 1) := by decide +kernel
theorem dX5_judge_21 : decode cX5_judge 21 = .ok (.if_icmp .lt 9, 3) := by decide +kernel
theorem dX5_judge_24 : decode cX5_judge 24 = .ok (.iload_n 2, 1) := by decide +kernel
theorem dX5_judge_25 : decode cX5_judge 25 = .ok (.iload 4, 2) := by decide +kernel
theorem dX5_judge_27 : decode cX5_judge 27 = .ok (.if_icmp .le 8, 3) := by decide +kernel
theorem dX5_judge_30 : decode cX5_judge 30 = .ok (.aload_n 0, 1) := by decide +kernel
theorem dX5_judge_31 : decode cX5_judge 31 = .ok (.iload_n 1, 1) := by decide +kernel
theorem dX5_judge_32 : decode cX5_judge 32 = .ok (.putfield 37, 3) := by decide +kernel
theorem dX5_judge_35 : decode cX5_judge 35 = .ok (.return_, 1) := by decide +kernel
