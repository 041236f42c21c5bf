theorem dX6_init_0 : decode cX6_init 0 = .ok (.aload_n 0, 1) := by decide +kernel
theorem dX6_init_1 : decode cX6_init 1 = .ok (.invokespecial 3, 3) := by decide +kernel
theorem dX6_init_4 : decode cX6_init 4 = .ok (.aload_n 0, 1) := by decide +kernel
theorem dX6_init_5 : decode cX6_init 5 = .ok (.new 9, 3) := by decide +kernel
theorem dX6_init_8 : decode cX6_init 8 = .ok (.dup, 1) := by decide +kernel
theorem dX6_init_9 : decode cX6_init 9 = .ok (.iconst 1, 1) := by decide +kernel
theorem dX6_init_10 : decode cX6_init 10 = .ok (.bipush 16, 2) := by decide +kernel
theorem dX6_init_12 : decode cX6_init 12 = .ok (.invokespecial 11, 3) := by decide +kernel
theorem dX6_init_15 : decode cX6_init 15 = .ok (.putfield 14, 3) := by decide +kernel
theorem dX6_init_18 : decode cX6_init 18 = .ok (.aload_n 0, 1) := by decide +kernel
theorem dX6_init_19 : decode cX6_init 19 = .ok (.new 20, 3) := by decide +kernel
theorem dX6_init_22 : decode cX6_init 22 = .ok (.dup, 1) := by decide +kernel
theorem dX6_init_23 : decode cX6_init 23 = .ok (.invokespecial 22, 3) := by decide +kernel
theorem dX6_init_26 : decode cX6_init 26 = .ok (.putfield 23, 3) := by decide +kernel
theorem dX6_init_29 : decode cX6_init 29 = .ok (.aload_n 0, 1) := by decide +kernel
theorem dX6_init_30 : decode cX6_init 30 = .ok (.new 27, 3) := by decide +kernel
theorem dX6_init_33 : decode cX6_init 33 = .ok (.dup, 1) := by decide +kernel
theorem dX6_init_34 : decode cX6_init 34 = .ok (.invokespecial 29, 3) := by decide +kernel
theorem dX6_init_37 : decode cX6_init 37 = .ok (.putfield 30, 3) := by decide +kernel
theorem dX6_init_40 : decode cX6_init 40 = .ok (.aload_n 0, 1) := by decide +kernel
theorem dX6_init_41 : decode cX6_init 41 = .ok (.sipush 800, 3) := by decide +kernel
theorem dX6_init_44 : decode cX6_init 44 = .ok (.newarray .int, 2) := by decide +kernel
theorem dX6_init_46 : decode cX6_init 46 = .ok (.putfield 34, 3) := by decide +kernel
theorem dX6_init_49 : decode cX6_init 49 = .ok (.aload_n 0, 1) := by decide +kernel
theorem dX6_init_50 : decode cX6_init 50 = .ok (.sipush 800, 3) := by decide +kernel
theorem dX6_init_53 : decode cX6_init 53 = .ok (.newarray .int, 2) := by decide +kernel
theorem dX6_init_55 : decode cX6_init 55 = .ok (.putfield 38, 3) := by decide +kernel
theorem dX6_init_58 : decode cX6_init 58 = .ok (.aload_n 0, 1) := by decide +kernel
theorem dX6_init_59 : decode cX6_init 59 = .ok (.bipush 64, 2) := by decide +kernel
theorem dX6_init_61 : decode cX6_init 61 = .ok (.newarray .int, 2) := by decide +kernel
theorem dX6_init_63 : decode cX6_init 63 = .ok (.putfield 41, 3) := by decide +kernel
theorem dX6_init_66 : decode cX6_init 66 = .ok (.return_, 1) := by decide +kernel
theorem dX6_compose_0 : decode cX6_compose 0 = .ok (.aload_n 0, 1) := by decide +kernel
theorem dX6_compose_1 : decode cX6_compose 1 = .ok (.getfield 14, 3) := by decide +kernel
theorem dX6_compose_4 : decode cX6_compose 4 = .ok (.aload_n 1, 1) := by decide +kernel
theorem dX6_compose_5 : decode cX6_compose 5 = .ok (.invokevirtual 44, 3) := by decide +kernel
theorem dX6_compose_8 : decode cX6_compose 8 = .ok (.aload_n 0, 1) := by decide +kernel
theorem dX6_compose_9 : decode cX6_compose 9 = .ok (.aload_n 0, 1) := by decide +kernel
theorem dX6_compose_10 : decode cX6_compose 10 = .ok (.getfield 14, 3) := by decide +kernel
theorem dX6_compose_13 : decode cX6_compose 13 = .ok (.invokevirtual 48, 3) := by decide +kernel
theorem dX6_compose_16 : decode cX6_compose 16 = .ok (.sipush 800, 3) := by decide +kernel
theorem dX6_compose_19 : decode cX6_compose 19 = .ok (.invokestatic 52, 3) := by decide +kernel
theorem dX6_compose_22 : decode cX6_compose 22 = .ok (.putfield 58, 3) := by decide +kernel
theorem dX6_compose_25 : decode cX6_compose 25 = .ok (.aload_n 0, 1) := by decide +kernel
theorem dX6_compose_26 : decode cX6_compose 26 = .ok (.getfield 30, 3) := by decide +kernel
theorem dX6_compose_29 : decode cX6_compose 29 = .ok (.invokevirtual 61, 3) := by decide +kernel
theorem dX6_compose_32 : decode cX6_compose 32 = .ok (.aload_n 0, 1) := by decide +kernel
theorem dX6_compose_33 : decode cX6_compose 33 = .ok (.getfield 30, 3) := by decide +kernel
theorem dX6_compose_36 : decode cX6_compose 36 = .ok (.bipush 8, 2) := by decide +kernel
theorem dX6_compose_38 : decode cX6_compose 38 = .ok (.bipush 83, 2) := by decide +kernel
theorem dX6_compose_40 : decode cX6_compose 40 = .ok (.invokevirtual 64, 3) := by decide +kernel
theorem dX6_compose_43 : decode cX6_compose 43 = .ok (.aload_n 0, 1) := by decide +kernel
theorem dX6_compose_44 : decode cX6_compose 44 = .ok (.getfield 30, 3) := by decide +kernel
theorem dX6_compose_47 : decode cX6_compose 47 = .ok (.bipush 8, 2) := by decide +kernel
theorem dX6_compose_49 : decode cX6_compose 49 = .ok (.bipush 66, 2) := by decide +kernel
theorem dX6_compose_51 : decode cX6_compose 51 = .ok (.invokevirtual 64, 3) := by decide +kernel
theorem dX6_compose_54 : decode cX6_compose 54 = .ok (.aload_n 0, 1) := by decide +kernel
theorem dX6_compose_55 : decode cX6_compose 55 = .ok (.getfield 30, 3) := by decide +kernel
theorem dX6_compose_58 : decode cX6_compose 58 = .ok (.iconst 2, 1) := by decide +kernel
theorem dX6_compose_59 : decode cX6_compose 59 = .ok (.aload_n 0, 1) := by decide +kernel
theorem dX6_compose_60 : decode cX6_compose 60 = .ok (.getfield 14, 3) := by decide +kernel
theorem dX6_compose_63 : decode cX6_compose 63 = .ok (.getfield 67, 3) := by decide +kernel
theorem dX6_compose_66 : decode cX6_compose 66 = .ok (.invokevirtual 70, 3) := by decide +kernel
theorem dX6_compose_69 : decode cX6_compose 69 = .ok (.aload_n 0, 1) := by decide +kernel
theorem dX6_compose_70 : decode cX6_compose 70 = .ok (.getfield 30, 3) := by decide +kernel
theorem dX6_compose_73 : decode cX6_compose 73 = .ok (.iconst 4, 1) := by decide +kernel
theorem dX6_compose_74 : decode cX6_compose 74 = .ok (.aload_n 0, 1) := by decide +kernel
theorem dX6_compose_75 : decode cX6_compose 75 = .ok (.getfield 14, 3) := by decide +kernel
theorem dX6_compose_78 : decode cX6_compose 78 = .ok (.getfield 73, 3) := by decide +kernel
theorem dX6_compose_81 : decode cX6_compose 81 = .ok (.invokevirtual 70, 3) := by decide +kernel
theorem dX6_compose_84 : decode cX6_compose 84 = .ok (.aload_n 0, 1) := by decide +kernel
theorem dX6_compose_85 : decode cX6_compose 85 = .ok (.getfield 30, 3) := by decide +kernel
theorem dX6_compose_88 : decode cX6_compose 88 = .ok (.bipush 6, 2) := by decide +kernel
theorem dX6_compose_90 : decode cX6_compose 90 = .ok (.aload_n 0, 1) := by decide +kernel
theorem dX6_compose_91 : decode cX6_compose 91 = .ok (.getfield 14, 3) := by decide +kernel
theorem dX6_compose_94 : decode cX6_compose 94 = .ok (.invokevirtual 76, 3) := by decide +kernel
theorem dX6_compose_97 : decode cX6_compose 97 = .ok (.invokevirtual 70, 3) := by decide +kernel
theorem dX6_compose_100 : decode cX6_compose 100 = .ok (.iconst 0, 1) := by decide +kernel
theorem dX6_compose_101 : decode cX6_compose 101 = .ok (.istore_n 2, 1) := by decide +kernel
theorem dX6_compose_102 : decode cX6_compose 102 = .ok (.iload_n 2, 1) := by decide +kernel
theorem dX6_compose_103 : decode cX6_compose 103 = .ok (.aload_n 0, 1) := by decide +kernel
theorem dX6_compose_104 : decode cX6_compose 104 = .ok (.getfield 58, 3) := by decide +kernel
theorem dX6_compose_107 : decode cX6_compose 107 = .ok (.if_icmp .ge 31, 3) := by decide +kernel
theorem dX6_compose_110 : decode cX6_compose 110 = .ok (.aload_n 0, 1) := by decide +kernel
theorem dX6_compose_111 : decode cX6_compose 111 = .ok (.getfield 23, 3) := by decide +kernel
theorem dX6_compose_114 : decode cX6_compose 114 = .ok (.iload_n 2, 1) := by decide +kernel
theorem dX6_compose_115 : decode cX6_compose 115 = .ok (.aload_n 0, 1) := by decide +kernel
theorem dX6_compose_116 : decode cX6_compose 116 = .ok (.getfield 14, 3) := by decide +kernel
theorem dX6_compose_119 : decode cX6_compose 119 = .ok (.invokevirtual 79, 3) := by decide +kernel
theorem dX6_compose_122 : decode cX6_compose 122 = .ok (.aload_n 0, 1) := by decide +kernel
theorem dX6_compose_123 : decode cX6_compose 123 = .ok (.iload_n 2, 1) := by decide +kernel
theorem dX6_compose_124 : decode cX6_compose 124 = .ok (.invokevirtual 83, 3) := by decide +kernel
theorem dX6_compose_127 : decode cX6_compose 127 = .ok (.aload_n 0, 1) := by decide +kernel
theorem dX6_compose_128 : decode cX6_compose 128 = .ok (.iload_n 2, 1) := by decide +kernel
theorem dX6_compose_129 : decode cX6_compose 129 = .ok (.invokevirtual 87, 3) := by decide +kernel
theorem dX6_compose_132 : decode cX6_compose 132 = .ok (.iinc 2 1, 3) := by decide +kernel
theorem dX6_compose_135 : decode cX6_compose 135 = .ok (.goto (-33), 3) := by decide +kernel
theorem dX6_compose_138 : decode cX6_compose 138 = .ok (.aload_n 0, 1) := by decide +kernel
theorem dX6_compose_139 : decode cX6_compose 139 = .ok (.getfield 30, 3) := by decide +kernel
theorem dX6_compose_142 : decode cX6_compose 142 = .ok (.iconst 2, 1) := by decide +kernel
theorem dX6_compose_143 : decode cX6_compose 143 = .ok (.iconst 5, 1) := by decide +kernel
theorem dX6_compose_144 : decode cX6_compose 144 = .ok (.invokevirtual 70, 3) := by decide +kernel
theorem dX6_compose_147 : decode cX6_compose 147 = .ok (.aload_n 0, 1) := by decide +kernel
theorem dX6_compose_148 : decode cX6_compose 148 = .ok (.getfield 30, 3) := by decide +kernel
theorem dX6_compose_151 : decode cX6_compose 151 = .ok (.invokevirtual 90, 3) := by decide +kernel
theorem dX6_compose_154 : decode cX6_compose 154 = .ok (.return_, 1) := by decide +kernel
theorem dX6_choose_0 : decode cX6_choose 0 = .ok (.aload_n 0, 1) := by decide +kernel
theorem dX6_choose_1 : decode cX6_choose 1 = .ok (.iload_n 1, 1) := by decide +kernel
theorem dX6_choose_2 : decode cX6_choose 2 = .ok (.iconst 0, 1) := by decide +kernel
theorem dX6_choose_3 : decode cX6_choose 3 = .ok (.invokevirtual 93, 3) := by decide +kernel
theorem dX6_choose_6 : decode cX6_choose 6 = .ok (.aload_n 0, 1) := by decide +kernel
theorem dX6_choose_7 : decode cX6_choose 7 = .ok (.iconst 0, 1) := by decide +kernel
theorem dX6_choose_8 : decode cX6_choose 8 = .ok (.invokevirtual 96, 3) := by decide +kernel
theorem dX6_choose_11 : decode cX6_choose 11 = .ok (.ifCond .ne 18, 3) := by decide +kernel
theorem dX6_choose_14 : decode cX6_choose 14 = .ok (.aload_n 0, 1) := by decide +kernel
theorem dX6_choose_15 : decode cX6_choose 15 = .ok (.getfield 34, 3) := by decide +kernel
theorem dX6_choose_18 : decode cX6_choose 18 = .ok (.iload_n 1, 1) := by decide +kernel
theorem dX6_choose_19 : decode cX6_choose 19 = .ok (.iconst 4, 1) := by decide +kernel
theorem dX6_choose_20 : decode cX6_choose 20 = .ok (.iastore, 1) := by decide +kernel
theorem dX6_choose_21 : decode cX6_choose 21 = .ok (.aload_n 0, 1) := by decide +kernel
theorem dX6_choose_22 : decode cX6_choose 22 = .ok (.getfield 38, 3) := by decide +kernel
theorem dX6_choose_25 : decode cX6_choose 25 = .ok (.iload_n 1, 1) := by decide +kernel
theorem dX6_choose_26 : decode cX6_choose 26 = .ok (.iconst (-1), 1) := by decide +kernel
theorem dX6_choose_27 : decode cX6_choose 27 = .ok (.iastore, 1) := by decide +kernel
theorem dX6_choose_28 : decode cX6_choose 28 = .ok (.return_, 1) := by decide +kernel
theorem dX6_choose_29 : decode cX6_choose 29 = .ok (.ldc 100, 2) := by decide +kernel
theorem dX6_choose_31 : decode cX6_choose 31 = .ok (.istore_n 2, 1) := by decide +kernel
theorem dX6_choose_32 : decode cX6_choose 32 = .ok (.iconst 0, 1) := by decide +kernel
theorem dX6_choose_33 : decode cX6_choose 33 = .ok (.istore_n 3, 1) := by decide +kernel
theorem dX6_choose_34 : decode cX6_choose 34 = .ok (.iload_n 3, 1) := by decide +kernel
theorem dX6_choose_35 : decode cX6_choose 35 = .ok (.iconst 4, 1) := by decide +kernel
theorem dX6_choose_36 : decode cX6_choose 36 = .ok (.if_icmp .ge 82, 3) := by decide +kernel
theorem dX6_choose_39 : decode cX6_choose 39 = .ok (.aload_n 0, 1) := by decide +kernel
theorem dX6_choose_40 : decode cX6_choose 40 = .ok (.iload_n 1, 1) := by decide +kernel
theorem dX6_choose_41 : decode cX6_choose 41 = .ok (.iload_n 3, 1) := by decide +kernel
theorem dX6_choose_42 : decode cX6_choose 42 = .ok (.invokevirtual 93, 3) := by decide +kernel
theorem dX6_choose_45 : decode cX6_choose 45 = .ok (.iconst 0, 1) := by decide +kernel
theorem dX6_choose_46 : decode cX6_choose 46 = .ok (.istore 4, 2) := by decide +kernel
theorem dX6_choose_48 : decode cX6_choose 48 = .ok (.iload 4, 2) := by decide +kernel
theorem dX6_choose_50 : decode cX6_choose 50 = .ok (.bipush 15, 2) := by decide +kernel
theorem dX6_choose_52 : decode cX6_choose 52 = .ok (.if_icmp .gt 60, 3) := by decide +kernel
theorem dX6_choose_55 : decode cX6_choose 55 = .ok (.aload_n 0, 1) := by decide +kernel
theorem dX6_choose_56 : decode cX6_choose 56 = .ok (.iload 4, 2) := by decide +kernel
theorem dX6_choose_58 : decode cX6_choose 58 = .ok (.invokevirtual 96, 3) := by decide +kernel
theorem dX6_choose_61 : decode cX6_choose 61 = .ok (.istore 5, 2) := by decide +kernel
theorem dX6_choose_63 : decode cX6_choose 63 = .ok (.aload_n 0, 1) := by decide +kernel
theorem dX6_choose_64 : decode cX6_choose 64 = .ok (.iload_n 3, 1) := by decide +kernel
theorem dX6_choose_65 : decode cX6_choose 65 = .ok (.iload 4, 2) := by decide +kernel
theorem dX6_choose_67 : decode cX6_choose 67 = .ok (.iload 5, 2) := by decide +kernel
theorem dX6_choose_69 : decode cX6_choose 69 = .ok (.invokevirtual 101, 3) := by decide +kernel
theorem dX6_choose_72 : decode cX6_choose 72 = .ok (.istore 6, 2) := by decide +kernel
theorem dX6_choose_74 : decode cX6_choose 74 = .ok (.iload 6, 2) := by decide +kernel
theorem dX6_choose_76 : decode cX6_choose 76 = .ok (.iload_n 2, 1) := by decide +kernel
theorem dX6_choose_77 : decode cX6_choose 77 = .ok (.if_icmp .ge 21, 3) := by decide +kernel
theorem dX6_choose_80 : decode cX6_choose 80 = .ok (.iload 6, 2) := by decide +kernel
theorem dX6_choose_82 : decode cX6_choose 82 = .ok (.istore_n 2, 1) := by decide +kernel
theorem dX6_choose_83 : decode cX6_choose 83 = .ok (.aload_n 0, 1) := by decide +kernel
theorem dX6_choose_84 : decode cX6_choose 84 = .ok (.getfield 34, 3) := by decide +kernel
theorem dX6_choose_87 : decode cX6_choose 87 = .ok (.iload_n 1, 1) := by decide +kernel
theorem dX6_choose_88 : decode cX6_choose 88 = .ok (.iload_n 3, 1) := by decide +kernel
theorem dX6_choose_89 : decode cX6_choose 89 = .ok (.iastore, 1) := by decide +kernel
theorem dX6_choose_90 : decode cX6_choose 90 = .ok (.aload_n 0, 1) := by decide +kernel
theorem dX6_choose_91 : decode cX6_choose 91 = .ok (.getfield 38, 3) := by decide +kernel
theorem dX6_choose_94 : decode cX6_choose 94 = .ok (.iload_n 1, 1) := by decide +kernel
theorem dX6_choose_95 : decode cX6_choose 95 = .ok (.iload 4, 2) := by decide +kernel
theorem dX6_choose_97 : decode cX6_choose 97 = .ok (.iastore, 1) := by decide +kernel
theorem dX6_choose_98 : decode cX6_choose 98 = .ok (.iload 5, 2) := by decide +kernel
theorem dX6_choose_100 : decode cX6_choose 100 = .ok (.ifCond .ne 6, 3) := by decide +kernel
theorem dX6_choose_103 : decode cX6_choose 103 = .ok (.goto 9, 3) := by decide +kernel
theorem dX6_choose_106 : decode cX6_choose 106 = .ok (.iinc 4 1, 3) := by decide +kernel
theorem dX6_choose_109 : decode cX6_choose 109 = .ok (.goto (-61), 3) := by decide +kernel
theorem dX6_choose_112 : decode cX6_choose 112 = .ok (.iinc 3 1, 3) := by decide +kernel
theorem dX6_choose_115 : decode cX6_choose 115 = .ok (.goto (-81), 3) := by decide +kernel
theorem dX6_choose_118 : decode cX6_choose 118 = .ok (.return_, 1) := by decide +kernel
theorem dX6_putBlock_0 : decode cX6_putBlock 0 = .ok (.aload_n 0, 1) := by decide +kernel
theorem dX6_putBlock_1 : decode cX6_putBlock 1 = .ok (.getfield 34, 3) := by decide +kernel
theorem dX6_putBlock_4 : decode cX6_putBlock 4 = .ok (.iload_n 1, 1) := by decide +kernel
theorem dX6_putBlock_5 : decode cX6_putBlock 5 = .ok (.iaload, 1) := by decide +kernel
theorem dX6_putBlock_6 : decode cX6_putBlock 6 = .ok (.istore_n 2, 1) := by decide +kernel
theorem dX6_putBlock_7 : decode cX6_putBlock 7 = .ok (.aload_n 0, 1) := by decide +kernel
theorem dX6_putBlock_8 : decode cX6_putBlock 8 = .ok (.getfield 30, 3) := by decide +kernel
theorem dX6_putBlock_11 : decode cX6_putBlock 11 = .ok (.iconst 2, 1) := by decide +kernel
theorem dX6_putBlock_12 : decode cX6_putBlock 12 = .ok (.iload_n 2, 1) := by decide +kernel
theorem dX6_putBlock_13 : decode cX6_putBlock 13 = .ok (.invokevirtual 70, 3) := by decide +kernel
theorem dX6_putBlock_16 : decode cX6_putBlock 16 = .ok (.iload_n 2, 1) := by decide +kernel
theorem dX6_putBlock_17 : decode cX6_putBlock 17 = .ok (.iconst 4, 1) := by decide +kernel
theorem dX6_putBlock_18 : decode cX6_putBlock 18 = .ok (.if_icmp .ne 4, 3) := by decide +kernel
theorem dX6_putBlock_21 : decode cX6_putBlock 21 = .ok (.return_, 1) := by decide +kernel
theorem dX6_putBlock_22 : decode cX6_putBlock 22 = .ok (.aload_n 0, 1) := by decide +kernel
theorem dX6_putBlock_23 : decode cX6_putBlock 23 = .ok (.getfield 38, 3) := by decide +kernel
theorem dX6_putBlock_26 : decode cX6_putBlock 26 = .ok (.iload_n 1, 1) := by decide +kernel
theorem dX6_putBlock_27 : decode cX6_putBlock 27 = .ok (.iaload, 1) := by decide +kernel
theorem dX6_putBlock_28 : decode cX6_putBlock 28 = .ok (.istore_n 3, 1) := by decide +kernel
theorem dX6_putBlock_29 : decode cX6_putBlock 29 = .ok (.aload_n 0, 1) := by decide +kernel
theorem dX6_putBlock_30 : decode cX6_putBlock 30 = .ok (.getfield 30, 3) := by decide +kernel
theorem dX6_putBlock_33 : decode cX6_putBlock 33 = .ok (.iconst 3, 1) := by decide +kernel
theorem dX6_putBlock_34 : decode cX6_putBlock 34 = .ok (.iload_n 3, 1) := by decide +kernel
theorem dX6_putBlock_35 : decode cX6_putBlock 35 = .ok (.invokevirtual 70, 3) := by decide +kernel
theorem dX6_putBlock_38 : decode cX6_putBlock 38 = .ok (.aload_n 0, 1) := by decide +kernel
theorem dX6_putBlock_39 : decode cX6_putBlock 39 = .ok (.iload_n 1, 1) := by decide +kernel
theorem dX6_putBlock_40 : decode cX6_putBlock 40 = .ok (.iload_n 2, 1) := by decide +kernel
theorem dX6_putBlock_41 : decode cX6_putBlock 41 = .ok (.invokevirtual 93, 3) := by decide +kernel
theorem dX6_putBlock_44 : decode cX6_putBlock 44 = .ok (.iconst 0, 1) := by decide +kernel
theorem dX6_putBlock_45 : decode cX6_putBlock 45 = .ok (.istore 4, 2) := by decide +kernel
theorem dX6_putBlock_47 : decode cX6_putBlock 47 = .ok (.iload 4, 2) := by decide +kernel
theorem dX6_putBlock_49 : decode cX6_putBlock 49 = .ok (.aload_n 0, 1) := by decide +kernel
theorem dX6_putBlock_50 : decode cX6_putBlock 50 = .ok (.getfield 105, 3) := by decide +kernel
theorem dX6_putBlock_53 : decode cX6_putBlock 53 = .ok (.if_icmp .ge 24, 3) := by decide +kernel
theorem dX6_putBlock_56 : decode cX6_putBlock 56 = .ok (.aload_n 0, 1) := by decide +kernel
theorem dX6_putBlock_57 : decode cX6_putBlock 57 = .ok (.getfield 30, 3) := by decide +kernel
theorem dX6_putBlock_60 : decode cX6_putBlock 60 = .ok (.iload_n 3, 1) := by decide +kernel
theorem dX6_putBlock_61 : decode cX6_putBlock 61 = .ok (.aload_n 0, 1) := by decide +kernel
theorem dX6_putBlock_62 : decode cX6_putBlock 62 = .ok (.getfield 41, 3) := by decide +kernel
theorem dX6_putBlock_65 : decode cX6_putBlock 65 = .ok (.iload 4, 2) := by decide +kernel
theorem dX6_putBlock_67 : decode cX6_putBlock 67 = .ok (.iaload, 1) := by decide +kernel
theorem dX6_putBlock_68 : decode cX6_putBlock 68 = .ok (.invokevirtual 70, 3) := by decide +kernel
theorem dX6_putBlock_71 : decode cX6_putBlock 71 = .ok (.iinc 4 1, 3) := by decide +kernel
theorem dX6_putBlock_74 : decode cX6_putBlock 74 = .ok (.goto (-27), 3) := by decide +kernel
theorem dX6_putBlock_77 : decode cX6_putBlock 77 = .ok (.return_, 1) := by decide +kernel
theorem dX6_findRests_0 : decode cX6_findRests 0 = .ok (.aload_n 0, 1) := by decide +kernel
theorem dX6_findRests_1 : decode cX6_findRests 1 = .ok (.getfield 23, 3) := by decide +kernel
theorem dX6_findRests_4 : decode cX6_findRests 4 = .ok (.iload_n 1, 1) := by decide +kernel
theorem dX6_findRests_5 : decode cX6_findRests 5 = .ok (.aload_n 0, 1) := by decide +kernel
theorem dX6_findRests_6 : decode cX6_findRests 6 = .ok (.getfield 14, 3) := by decide +kernel
theorem dX6_findRests_9 : decode cX6_findRests 9 = .ok (.getfield 67, 3) := by decide +kernel
theorem dX6_findRests_12 : decode cX6_findRests 12 = .ok (.invokevirtual 108, 3) := by decide +kernel
theorem dX6_findRests_15 : decode cX6_findRests 15 = .ok (.istore_n 3, 1) := by decide +kernel
theorem dX6_findRests_16 : decode cX6_findRests 16 = .ok (.aload_n 0, 1) := by decide +kernel
theorem dX6_findRests_17 : decode cX6_findRests 17 = .ok (.getfield 14, 3) := by decide +kernel
theorem dX6_findRests_20 : decode cX6_findRests 20 = .ok (.iload_n 1, 1) := by decide +kernel
theorem dX6_findRests_21 : decode cX6_findRests 21 = .ok (.invokevirtual 111, 3) := by decide +kernel
theorem dX6_findRests_24 : decode cX6_findRests 24 = .ok (.istore 4, 2) := by decide +kernel
theorem dX6_findRests_26 : decode cX6_findRests 26 = .ok (.aload_n 0, 1) := by decide +kernel
theorem dX6_findRests_27 : decode cX6_findRests 27 = .ok (.aload_n 0, 1) := by decide +kernel
theorem dX6_findRests_28 : decode cX6_findRests 28 = .ok (.getfield 14, 3) := by decide +kernel
theorem dX6_findRests_31 : decode cX6_findRests 31 = .ok (.iload_n 1, 1) := by decide +kernel
theorem dX6_findRests_32 : decode cX6_findRests 32 = .ok (.invokevirtual 114, 3) := by decide +kernel
theorem dX6_findRests_35 : decode cX6_findRests 35 = .ok (.bipush 64, 2) := by decide +kernel
theorem dX6_findRests_37 : decode cX6_findRests 37 = .ok (.invokestatic 52, 3) := by decide +kernel
theorem dX6_findRests_40 : decode cX6_findRests 40 = .ok (.putfield 105, 3) := by decide +kernel
theorem dX6_findRests_43 : decode cX6_findRests 43 = .ok (.iconst 0, 1) := by decide +kernel
theorem dX6_findRests_44 : decode cX6_findRests 44 = .ok (.istore 5, 2) := by decide +kernel
theorem dX6_findRests_46 : decode cX6_findRests 46 = .ok (.iload 5, 2) := by decide +kernel
theorem dX6_findRests_48 : decode cX6_findRests 48 = .ok (.aload_n 0, 1) := by decide +kernel
theorem dX6_findRests_49 : decode cX6_findRests 49 = .ok (.getfield 105, 3) := by decide +kernel
theorem dX6_findRests_52 : decode cX6_findRests 52 = .ok (.if_icmp .ge 52, 3) := by decide +kernel
theorem dX6_findRests_55 : decode cX6_findRests 55 = .ok (.aload_n 0, 1) := by decide +kernel
theorem dX6_findRests_56 : decode cX6_findRests 56 = .ok (.getfield 41, 3) := by decide +kernel
theorem dX6_findRests_59 : decode cX6_findRests 59 = .ok (.iload 5, 2) := by decide +kernel
theorem dX6_findRests_61 : decode cX6_findRests 61 = .ok (.aload_n 0, 1) := by decide +kernel
theorem dX6_findRests_62 : decode cX6_findRests 62 = .ok (.getfield 14, 3) := by decide +kernel
theorem dX6_findRests_65 : decode cX6_findRests 65 = .ok (.iload 4, 2) := by decide +kernel
theorem dX6_findRests_67 : decode cX6_findRests 67 = .ok (.invokevirtual 117, 3) := by decide +kernel
theorem dX6_findRests_70 : decode cX6_findRests 70 = .ok (.aload_n 0, 1) := by decide +kernel
theorem dX6_findRests_71 : decode cX6_findRests 71 = .ok (.getfield 14, 3) := by decide +kernel
theorem dX6_findRests_74 : decode cX6_findRests 74 = .ok (.iload_n 2, 1) := by decide +kernel
theorem dX6_findRests_75 : decode cX6_findRests 75 = .ok (.iload 4, 2) := by decide +kernel
theorem dX6_findRests_77 : decode cX6_findRests 77 = .ok (.iload_n 3, 1) := by decide +kernel
theorem dX6_findRests_78 : decode cX6_findRests 78 = .ok (.invokevirtual 120, 3) := by decide +kernel
theorem dX6_findRests_81 : decode cX6_findRests 81 = .ok (.isub, 1) := by decide +kernel
theorem dX6_findRests_82 : decode cX6_findRests 82 = .ok (.invokestatic 123, 3) := by decide +kernel
theorem dX6_findRests_85 : decode cX6_findRests 85 = .ok (.iastore, 1) := by decide +kernel
theorem dX6_findRests_86 : decode cX6_findRests 86 = .ok (.iload 4, 2) := by decide +kernel
theorem dX6_findRests_88 : decode cX6_findRests 88 = .ok (.aload_n 0, 1) := by decide +kernel
theorem dX6_findRests_89 : decode cX6_findRests 89 = .ok (.getfield 14, 3) := by decide +kernel
theorem dX6_findRests_92 : decode cX6_findRests 92 = .ok (.getfield 67, 3) := by decide +kernel
theorem dX6_findRests_95 : decode cX6_findRests 95 = .ok (.iadd, 1) := by decide +kernel
theorem dX6_findRests_96 : decode cX6_findRests 96 = .ok (.istore 4, 2) := by decide +kernel
theorem dX6_findRests_98 : decode cX6_findRests 98 = .ok (.iinc 5 1, 3) := by decide +kernel
theorem dX6_findRests_101 : decode cX6_findRests 101 = .ok (.goto (-55), 3) := by decide +kernel
theorem dX6_findRests_104 : decode cX6_findRests 104 = .ok (.return_, 1) := by decide +kernel
theorem dX6_zerosFor_0 : decode cX6_zerosFor 0 = .ok (.iconst 0, 1) := by decide +kernel
theorem dX6_zerosFor_1 : decode cX6_zerosFor 1 = .ok (.istore_n 2, 1) := by decide +kernel
theorem dX6_zerosFor_2 : decode cX6_zerosFor 2 = .ok (.iconst 0, 1) := by decide +kernel
theorem dX6_zerosFor_3 : decode cX6_zerosFor 3 = .ok (.istore_n 3, 1) := by decide +kernel
theorem dX6_zerosFor_4 : decode cX6_zerosFor 4 = .ok (.iload_n 3, 1) := by decide +kernel
theorem dX6_zerosFor_5 : decode cX6_zerosFor 5 = .ok (.aload_n 0, 1) := by decide +kernel
theorem dX6_zerosFor_6 : decode cX6_zerosFor 6 = .ok (.getfield 105, 3) := by decide +kernel
theorem dX6_zerosFor_9 : decode cX6_zerosFor 9 = .ok (.if_icmp .ge 20, 3) := by decide +kernel
theorem dX6_zerosFor_12 : decode cX6_zerosFor 12 = .ok (.iload_n 2, 1) := by decide +kernel
theorem dX6_zerosFor_13 : decode cX6_zerosFor 13 = .ok (.aload_n 0, 1) := by decide +kernel
theorem dX6_zerosFor_14 : decode cX6_zerosFor 14 = .ok (.getfield 41, 3) := by decide +kernel
theorem dX6_zerosFor_17 : decode cX6_zerosFor 17 = .ok (.iload_n 3, 1) := by decide +kernel
theorem dX6_zerosFor_18 : decode cX6_zerosFor 18 = .ok (.iaload, 1) := by decide +kernel
theorem dX6_zerosFor_19 : decode cX6_zerosFor 19 = .ok (.iload_n 1, 1) := by decide +kernel
theorem dX6_zerosFor_20 : decode cX6_zerosFor 20 = .ok (.ishr, 1) := by decide +kernel
theorem dX6_zerosFor_21 : decode cX6_zerosFor 21 = .ok (.iadd, 1) := by decide +kernel
theorem dX6_zerosFor_22 : decode cX6_zerosFor 22 = .ok (.istore_n 2, 1) := by decide +kernel
theorem dX6_zerosFor_23 : decode cX6_zerosFor 23 = .ok (.iinc 3 1, 3) := by decide +kernel
theorem dX6_zerosFor_26 : decode cX6_zerosFor 26 = .ok (.goto (-22), 3) := by decide +kernel
theorem dX6_zerosFor_29 : decode cX6_zerosFor 29 = .ok (.iload_n 2, 1) := by decide +kernel
theorem dX6_zerosFor_30 : decode cX6_zerosFor 30 = .ok (.ireturn, 1) := by decide +kernel
theorem dX6_bitsWith_0 : decode cX6_bitsWith 0 = .ok (.iconst 2, 1) := by decide +kernel
theorem dX6_bitsWith_1 : decode cX6_bitsWith 1 = .ok (.iload_n 1, 1) := by decide +kernel
theorem dX6_bitsWith_2 : decode cX6_bitsWith 2 = .ok (.invokestatic 126, 3) := by decide +kernel
theorem dX6_bitsWith_5 : decode cX6_bitsWith 5 = .ok (.iconst 3, 1) := by decide +kernel
theorem dX6_bitsWith_6 : decode cX6_bitsWith 6 = .ok (.iload_n 2, 1) := by decide +kernel
theorem dX6_bitsWith_7 : decode cX6_bitsWith 7 = .ok (.invokestatic 126, 3) := by decide +kernel
theorem dX6_bitsWith_10 : decode cX6_bitsWith 10 = .ok (.iadd, 1) := by decide +kernel
theorem dX6_bitsWith_11 : decode cX6_bitsWith 11 = .ok (.iload_n 3, 1) := by decide +kernel
theorem dX6_bitsWith_12 : decode cX6_bitsWith 12 = .ok (.iadd, 1) := by decide +kernel
theorem dX6_bitsWith_13 : decode cX6_bitsWith 13 = .ok (.aload_n 0, 1) := by decide +kernel
theorem dX6_bitsWith_14 : decode cX6_bitsWith 14 = .ok (.getfield 105, 3) := by decide +kernel
theorem dX6_bitsWith_17 : decode cX6_bitsWith 17 = .ok (.iconst 1, 1) := by decide +kernel
theorem dX6_bitsWith_18 : decode cX6_bitsWith 18 = .ok (.iload_n 2, 1) := by decide +kernel
theorem dX6_bitsWith_19 : decode cX6_bitsWith 19 = .ok (.iadd, 1) := by decide +kernel
theorem dX6_bitsWith_20 : decode cX6_bitsWith 20 = .ok (.imul, 1) := by decide +kernel
theorem dX6_bitsWith_21 : decode cX6_bitsWith 21 = .ok (.iadd, 1) := by decide +kernel
theorem dX6_bitsWith_22 : decode cX6_bitsWith 22 = .ok (.ireturn, 1) := by decide +kernel
theorem dX6_bitsFor_0 : decode cX6_bitsFor 0 = .ok (.aload_n 0, 1) := by decide +kernel
theorem dX6_bitsFor_1 : decode cX6_bitsFor 1 = .ok (.iload_n 1, 1) := by decide +kernel
theorem dX6_bitsFor_2 : decode cX6_bitsFor 2 = .ok (.iload_n 2, 1) := by decide +kernel
theorem dX6_bitsFor_3 : decode cX6_bitsFor 3 = .ok (.invokevirtual 93, 3) := by decide +kernel
theorem dX6_bitsFor_6 : decode cX6_bitsFor 6 = .ok (.aload_n 0, 1) := by decide +kernel
theorem dX6_bitsFor_7 : decode cX6_bitsFor 7 = .ok (.iload_n 2, 1) := by decide +kernel
theorem dX6_bitsFor_8 : decode cX6_bitsFor 8 = .ok (.iload_n 3, 1) := by decide +kernel
theorem dX6_bitsFor_9 : decode cX6_bitsFor 9 = .ok (.aload_n 0, 1) := by decide +kernel
theorem dX6_bitsFor_10 : decode cX6_bitsFor 10 = .ok (.iload_n 3, 1) := by decide +kernel
theorem dX6_bitsFor_11 : decode cX6_bitsFor 11 = .ok (.invokevirtual 96, 3) := by decide +kernel
theorem dX6_bitsFor_14 : decode cX6_bitsFor 14 = .ok (.invokevirtual 101, 3) := by decide +kernel
theorem dX6_bitsFor_17 : decode cX6_bitsFor 17 = .ok (.ireturn, 1) := by decide +kernel
theorem dX6_bitsTaken_0 : decode cX6_bitsTaken 0 = .ok (.aload_n 0, 1) := by decide +kernel
theorem dX6_bitsTaken_1 : decode cX6_bitsTaken 1 = .ok (.getfield 34, 3) := by decide +kernel
theorem dX6_bitsTaken_4 : decode cX6_bitsTaken 4 = .ok (.iload_n 1, 1) := by decide +kernel
theorem dX6_bitsTaken_5 : decode cX6_bitsTaken 5 = .ok (.iaload, 1) := by decide +kernel
theorem dX6_bitsTaken_6 : decode cX6_bitsTaken 6 = .ok (.iconst 4, 1) := by decide +kernel
theorem dX6_bitsTaken_7 : decode cX6_bitsTaken 7 = .ok (.if_icmp .ne 11, 3) := by decide +kernel
theorem dX6_bitsTaken_10 : decode cX6_bitsTaken 10 = .ok (.iconst 2, 1) := by decide +kernel
theorem dX6_bitsTaken_11 : decode cX6_bitsTaken 11 = .ok (.iconst 4, 1) := by decide +kernel
theorem dX6_bitsTaken_12 : decode cX6_bitsTaken 12 = .ok (.invokestatic 126, 3) := by decide +kernel
theorem dX6_bitsTaken_15 : decode cX6_bitsTaken 15 = .ok (.goto 20, 3) := by decide +kernel
theorem dX6_bitsTaken_18 : decode cX6_bitsTaken 18 = .ok (.aload_n 0, 1) := by decide +kernel
theorem dX6_bitsTaken_19 : decode cX6_bitsTaken 19 = .ok (.iload_n 1, 1) := by decide +kernel
theorem dX6_bitsTaken_20 : decode cX6_bitsTaken 20 = .ok (.aload_n 0, 1) := by decide +kernel
theorem dX6_bitsTaken_21 : decode cX6_bitsTaken 21 = .ok (.getfield 34, 3) := by decide +kernel
theorem dX6_bitsTaken_24 : decode cX6_bitsTaken 24 = .ok (.iload_n 1, 1) := by decide +kernel
theorem dX6_bitsTaken_25 : decode cX6_bitsTaken 25 = .ok (.iaload, 1) := by decide +kernel
theorem dX6_bitsTaken_26 : decode cX6_bitsTaken 26 = .ok (.aload_n 0, 1) := by decide +kernel
theorem dX6_bitsTaken_27 : decode cX6_bitsTaken 27 = .ok (.getfield 38, 3) := by decide +kernel
theorem dX6_bitsTaken_30 : decode cX6_bitsTaken 30 = .ok (.iload_n 1, 1) := by decide +kernel
theorem dX6_bitsTaken_31 : decode cX6_bitsTaken 31 = .ok (.iaload, 1) := by decide +kernel
theorem dX6_bitsTaken_32 : decode cX6_bitsTaken 32 = .ok (.invokevirtual 129, 3) := by decide +kernel
theorem dX6_bitsTaken_35 : decode cX6_bitsTaken 35 = .ok (.ireturn, 1) := by decide +kernel
theorem dX7_init_0 : decode cX7_init 0 = .ok (.aload_n 0, 1) := by decide +kernel
theorem dX7_init_1 : decode cX7_init 1 = .ok (.invokespecial 3, 3) := by decide +kernel
theorem dX7_init_4 : decode cX7_init 4 = .ok (.aload_n 0, 1) := by decide +kernel
theorem dX7_init_5 : decode cX7_init 5 = .ok (.new 9, 3) := by decide +kernel
theorem dX7_init_8 : decode cX7_init 8 = .ok (.dup, 1) := by decide +kernel
theorem dX7_init_9 : decode cX7_init 9 = .ok (.iconst 1, 1) := by decide +kernel
theorem dX7_init_10 : decode cX7_init 10 = .ok (.bipush 16, 2) := by decide +kernel
theorem dX7_init_12 : decode cX7_init 12 = .ok (.invokespecial 11, 3) := by decide +kernel
theorem dX7_init_15 : decode cX7_init 15 = .ok (.putfield 14, 3) := by decide +kernel
theorem dX7_init_18 : decode cX7_init 18 = .ok (.aload_n 0, 1) := by decide +kernel
theorem dX7_init_19 : decode cX7_init 19 = .ok (.new 18, 3) := by decide +kernel
theorem dX7_init_22 : decode cX7_init 22 = .ok (.dup, 1) := by decide +kernel
theorem dX7_init_23 : decode cX7_init 23 = .ok (.invokespecial 20, 3) := by decide +kernel
theorem dX7_init_26 : decode cX7_init 26 = .ok (.putfield 21, 3) := by decide +kernel
theorem dX7_init_29 : decode cX7_init 29 = .ok (.aload_n 0, 1) := by decide +kernel
theorem dX7_init_30 : decode cX7_init 30 = .ok (.new 25, 3) := by decide +kernel
theorem dX7_init_33 : decode cX7_init 33 = .ok (.dup, 1) := by decide +kernel
theorem dX7_init_34 : decode cX7_init 34 = .ok (.invokespecial 27, 3) := by decide +kernel
theorem dX7_init_37 : decode cX7_init 37 = .ok (.putfield 28, 3) := by decide +kernel
theorem dX7_init_40 : decode cX7_init 40 = .ok (.aload_n 0, 1) := by decide +kernel
theorem dX7_init_41 : decode cX7_init 41 = .ok (.aload_n 0, 1) := by decide +kernel
theorem dX7_init_42 : decode cX7_init 42 = .ok (.getfield 21, 3) := by decide +kernel
theorem dX7_init_45 : decode cX7_init 45 = .ok (.getfield 32, 3) := by decide +kernel
theorem dX7_init_48 : decode cX7_init 48 = .ok (.getfield 36, 3) := by decide +kernel
theorem dX7_init_51 : decode cX7_init 51 = .ok (.putfield 42, 3) := by decide +kernel
theorem dX7_init_54 : decode cX7_init 54 = .ok (.aload_n 0, 1) := by decide +kernel
theorem dX7_init_55 : decode cX7_init 55 = .ok (.aload_n 0, 1) := by decide +kernel
theorem dX7_init_56 : decode cX7_init 56 = .ok (.getfield 28, 3) := by decide +kernel
theorem dX7_init_59 : decode cX7_init 59 = .ok (.getfield 45, 3) := by decide +kernel
theorem dX7_init_62 : decode cX7_init 62 = .ok (.getfield 48, 3) := by decide +kernel
theorem dX7_init_65 : decode cX7_init 65 = .ok (.putfield 51, 3) := by decide +kernel
theorem dX7_init_68 : decode cX7_init 68 = .ok (.return_, 1) := by decide +kernel
theorem dX7_settings_0 : decode cX7_settings 0 = .ok (.iload_n 1, 1) := by decide +kernel
theorem dX7_settings_1 : decode cX7_settings 1 = .ok (.iconst 1, 1) := by decide +kernel
theorem dX7_settings_2 : decode cX7_settings 2 = .ok (.if_icmp .lt 19, 3) := by decide +kernel
theorem dX7_settings_5 : decode cX7_settings 5 = .ok (.iload_n 1, 1) := by decide +kernel
theorem dX7_settings_6 : decode cX7_settings 6 = .ok (.iconst 2, 1) := by decide +kernel
theorem dX7_settings_7 : decode cX7_settings 7 = .ok (.if_icmp .gt 14, 3) := by decide +kernel
theorem dX7_settings_10 : decode cX7_settings 10 = .ok (.iload_n 2, 1) := by decide +kernel
theorem dX7_settings_11 : decode cX7_settings 11 = .ok (.iconst 1, 1) := by decide +kernel
theorem dX7_settings_12 : decode cX7_settings 12 = .ok (.if_icmp .lt 9, 3) := by decide +kernel
theorem dX7_settings_15 : decode cX7_settings 15 = .ok (.iload_n 2, 1) := by decide +kernel
theorem dX7_settings_16 : decode cX7_settings 16 = .ok (.bipush 64, 2) := by decide +kernel
theorem dX7_settings_18 : decode cX7_settings 18 = .ok (.if_icmp .le 5, 3) := by decide +kernel
theorem dX7_settings_21 : decode cX7_settings 21 = .ok (.iconst 0, 1) := by decide +kernel
theorem dX7_settings_22 : decode cX7_settings 22 = .ok (.ireturn, 1) := by decide +kernel
theorem dX7_settings_23 : decode cX7_settings 23 = .ok (.aload_n 0, 1) := by decide +kernel
theorem dX7_settings_24 : decode cX7_settings 24 = .ok (.getfield 14, 3) := by decide +kernel
theorem dX7_settings_27 : decode cX7_settings 27 = .ok (.iload_n 1, 1) := by decide +kernel
theorem dX7_settings_28 : decode cX7_settings 28 = .ok (.iload_n 2, 1) := by decide +kernel
theorem dX7_settings_29 : decode cX7_settings 29 = .ok (.invokevirtual 54, 3) := by decide +kernel
theorem dX7_settings_32 : decode cX7_settings 32 = .ok (.iconst 1, 1) := by decide +kernel
theorem dX7_settings_33 : decode cX7_settings 33 = .ok (.ireturn, 1) := by decide +kernel
theorem dX7_sample_0 : decode cX7_sample 0 = .ok (.iload_n 1, 1) := by decide +kernel
theorem dX7_sample_1 : decode cX7_sample 1 = .ok (.invokestatic 57, 3) := by decide +kernel
theorem dX7_sample_4 : decode cX7_sample 4 = .ok (.ifCond .eq 24, 3) := by decide +kernel
theorem dX7_sample_7 : decode cX7_sample 7 = .ok (.aload_n 0, 1) := by decide +kernel
theorem dX7_sample_8 : decode cX7_sample 8 = .ok (.getfield 14, 3) := by decide +kernel
theorem dX7_sample_11 : decode cX7_sample 11 = .ok (.iload_n 1, 1) := by decide +kernel
theorem dX7_sample_12 : decode cX7_sample 12 = .ok (.invokevirtual 61, 3) := by decide +kernel
theorem dX7_sample_15 : decode cX7_sample 15 = .ok (.ifCond .eq 13, 3) := by decide +kernel
theorem dX7_sample_18 : decode cX7_sample 18 = .ok (.aload_n 0, 1) := by decide +kernel
theorem dX7_sample_19 : decode cX7_sample 19 = .ok (.getfield 14, 3) := by decide +kernel
theorem dX7_sample_22 : decode cX7_sample 22 = .ok (.getfield 64, 3) := by decide +kernel
theorem dX7_sample_25 : decode cX7_sample 25 = .ok (.goto 4, 3) := by decide +kernel
theorem dX7_sample_28 : decode cX7_sample 28 = .ok (.iconst (-1), 1) := by decide +kernel
theorem dX7_sample_29 : decode cX7_sample 29 = .ok (.ireturn, 1) := by decide +kernel
theorem dX7_write_0 : decode cX7_write 0 = .ok (.aload_n 0, 1) := by decide +kernel
theorem dX7_write_1 : decode cX7_write 1 = .ok (.getfield 21, 3) := by decide +kernel
theorem dX7_write_4 : decode cX7_write 4 = .ok (.aload_n 0, 1) := by decide +kernel
theorem dX7_write_5 : decode cX7_write 5 = .ok (.getfield 14, 3) := by decide +kernel
theorem dX7_write_8 : decode cX7_write 8 = .ok (.invokevirtual 68, 3) := by decide +kernel
theorem dX7_write_11 : decode cX7_write 11 = .ok (.aload_n 0, 1) := by decide +kernel
theorem dX7_write_12 : decode cX7_write 12 = .ok (.getfield 42, 3) := by decide +kernel
theorem dX7_write_15 : decode cX7_write 15 = .ok (.getfield 72, 3) := by decide +kernel
theorem dX7_write_18 : decode cX7_write 18 = .ok (.ireturn, 1) := by decide +kernel
theorem dX7_at_0 : decode cX7_at 0 = .ok (.aload_n 0, 1) := by decide +kernel
theorem dX7_at_1 : decode cX7_at 1 = .ok (.getfield 42, 3) := by decide +kernel
theorem dX7_at_4 : decode cX7_at 4 = .ok (.iload_n 1, 1) := by decide +kernel
theorem dX7_at_5 : decode cX7_at 5 = .ok (.invokevirtual 75, 3) := by decide +kernel
theorem dX7_at_8 : decode cX7_at 8 = .ok (.ireturn, 1) := by decide +kernel
theorem dX7_block_0 : decode cX7_block 0 = .ok (.iload_n 1, 1) := by decide +kernel
theorem dX7_block_1 : decode cX7_block 1 = .ok (.ifCond .lt 14, 3) := by decide +kernel
theorem dX7_block_4 : decode cX7_block 4 = .ok (.iload_n 1, 1) := by decide +kernel
theorem dX7_block_5 : decode cX7_block 5 = .ok (.aload_n 0, 1) := by decide +kernel
theorem dX7_block_6 : decode cX7_block 6 = .ok (.getfield 21, 3) := by decide +kernel
theorem dX7_block_9 : decode cX7_block 9 = .ok (.getfield 79, 3) := by decide +kernel
theorem dX7_block_12 : decode cX7_block 12 = .ok (.if_icmp .lt 5, 3) := by decide +kernel
theorem dX7_block_15 : decode cX7_block 15 = .ok (.iconst (-1), 1) := by decide +kernel
theorem dX7_block_16 : decode cX7_block 16 = .ok (.ireturn, 1) := by decide +kernel
theorem dX7_block_17 : decode cX7_block 17 = .ok (.iload_n 2, 1) := by decide +kernel
theorem dX7_block_18 : decode cX7_block 18 = .ok (.tableswitch 71 0 3 #[30, 42, 52, 62], 30) := by decide +kernel
theorem dX7_block_48 : decode cX7_block 48 = .ok (.aload_n 0, 1) := by decide +kernel
theorem dX7_block_49 : decode cX7_block 49 = .ok (.getfield 21, 3) := by decide +kernel
theorem dX7_block_52 : decode cX7_block 52 = .ok (.getfield 82, 3) := by decide +kernel
theorem dX7_block_55 : decode cX7_block 55 = .ok (.iload_n 1, 1) := by decide +kernel
theorem dX7_block_56 : decode cX7_block 56 = .ok (.invokevirtual 85, 3) := by decide +kernel
theorem dX7_block_59 : decode cX7_block 59 = .ok (.ireturn, 1) := by decide +kernel
theorem dX7_block_60 : decode cX7_block 60 = .ok (.aload_n 0, 1) := by decide +kernel
theorem dX7_block_61 : decode cX7_block 61 = .ok (.getfield 21, 3) := by decide +kernel
theorem dX7_block_64 : decode cX7_block 64 = .ok (.getfield 88, 3) := by decide +kernel
theorem dX7_block_67 : decode cX7_block 67 = .ok (.iload_n 1, 1) := by decide +kernel
theorem dX7_block_68 : decode cX7_block 68 = .ok (.iaload, 1) := by decide +kernel
theorem dX7_block_69 : decode cX7_block 69 = .ok (.ireturn, 1) := by decide +kernel
theorem dX7_block_70 : decode cX7_block 70 = .ok (.aload_n 0, 1) := by decide +kernel
theorem dX7_block_71 : decode cX7_block 71 = .ok (.getfield 21, 3) := by decide +kernel
theorem dX7_block_74 : decode cX7_block 74 = .ok (.getfield 92, 3) := by decide +kernel
theorem dX7_block_77 : decode cX7_block 77 = .ok (.iload_n 1, 1) := by decide +kernel
theorem dX7_block_78 : decode cX7_block 78 = .ok (.iaload, 1) := by decide +kernel
theorem dX7_block_79 : decode cX7_block 79 = .ok (.ireturn, 1) := by decide +kernel
theorem dX7_block_80 : decode cX7_block 80 = .ok (.aload_n 0, 1) := by decide +kernel
theorem dX7_block_81 : decode cX7_block 81 = .ok (.getfield 21, 3) := by decide +kernel
theorem dX7_block_84 : decode cX7_block 84 = .ok (.iload_n 1, 1) := by decide +kernel
theorem dX7_block_85 : decode cX7_block 85 = .ok (.invokevirtual 95, 3) := by decide +kernel
theorem dX7_block_88 : decode cX7_block 88 = .ok (.ireturn, 1) := by decide +kernel
theorem dX7_block_89 : decode cX7_block 89 = .ok (.iconst (-1), 1) := by decide +kernel
theorem dX7_block_90 : decode cX7_block 90 = .ok (.ireturn, 1) := by decide +kernel
theorem dX7_cost_0 : decode cX7_cost 0 = .ok (.iload_n 1, 1) := by decide +kernel
theorem dX7_cost_1 : decode cX7_cost 1 = .ok (.ifCond .lt 18, 3) := by decide +kernel
theorem dX7_cost_4 : decode cX7_cost 4 = .ok (.iload_n 1, 1) := by decide +kernel
theorem dX7_cost_5 : decode cX7_cost 5 = .ok (.aload_n 0, 1) := by decide +kernel
theorem dX7_cost_6 : decode cX7_cost 6 = .ok (.getfield 21, 3) := by decide +kernel
theorem dX7_cost_9 : decode cX7_cost 9 = .ok (.getfield 79, 3) := by decide +kernel
theorem dX7_cost_12 : decode cX7_cost 12 = .ok (.if_icmp .ge 7, 3) := by decide +kernel
theorem dX7_cost_15 : decode cX7_cost 15 = .ok (.iconst 1, 1) := by decide +kernel
theorem dX7_cost_16 : decode cX7_cost 16 = .ok (.goto 4, 3) := by decide +kernel
theorem dX7_cost_19 : decode cX7_cost 19 = .ok (.iconst 0, 1) := by decide +kernel
theorem dX7_cost_20 : decode cX7_cost 20 = .ok (.istore 4, 2) := by decide +kernel
theorem dX7_cost_22 : decode cX7_cost 22 = .ok (.iload 4, 2) := by decide +kernel
theorem dX7_cost_24 : decode cX7_cost 24 = .ok (.ifCond .eq 22, 3) := by decide +kernel
theorem dX7_cost_27 : decode cX7_cost 27 = .ok (.iload_n 2, 1) := by decide +kernel
theorem dX7_cost_28 : decode cX7_cost 28 = .ok (.ifCond .lt 18, 3) := by decide +kernel
theorem dX7_cost_31 : decode cX7_cost 31 = .ok (.iload_n 2, 1) := by decide +kernel
theorem dX7_cost_32 : decode cX7_cost 32 = .ok (.iconst 4, 1) := by decide +kernel
theorem dX7_cost_33 : decode cX7_cost 33 = .ok (.if_icmp .ge 13, 3) := by decide +kernel
theorem dX7_cost_36 : decode cX7_cost 36 = .ok (.iload_n 3, 1) := by decide +kernel
theorem dX7_cost_37 : decode cX7_cost 37 = .ok (.ifCond .lt 9, 3) := by decide +kernel
theorem dX7_cost_40 : decode cX7_cost 40 = .ok (.iload_n 3, 1) := by decide +kernel
theorem dX7_cost_41 : decode cX7_cost 41 = .ok (.bipush 15, 2) := by decide +kernel
theorem dX7_cost_43 : decode cX7_cost 43 = .ok (.if_icmp .le 5, 3) := by decide +kernel
theorem dX7_cost_46 : decode cX7_cost 46 = .ok (.iconst (-1), 1) := by decide +kernel
theorem dX7_cost_47 : decode cX7_cost 47 = .ok (.ireturn, 1) := by decide +kernel
theorem dX7_cost_48 : decode cX7_cost 48 = .ok (.aload_n 0, 1) := by decide +kernel
theorem dX7_cost_49 : decode cX7_cost 49 = .ok (.getfield 21, 3) := by decide +kernel
theorem dX7_cost_52 : decode cX7_cost 52 = .ok (.iload_n 1, 1) := by decide +kernel
theorem dX7_cost_53 : decode cX7_cost 53 = .ok (.iload_n 2, 1) := by decide +kernel
theorem dX7_cost_54 : decode cX7_cost 54 = .ok (.iload_n 3, 1) := by decide +kernel
theorem dX7_cost_55 : decode cX7_cost 55 = .ok (.invokevirtual 98, 3) := by decide +kernel
theorem dX7_cost_58 : decode cX7_cost 58 = .ok (.ireturn, 1) := by decide +kernel
theorem dX7_feed_0 : decode cX7_feed 0 = .ok (.iload_n 1, 1) := by decide +kernel
theorem dX7_feed_1 : decode cX7_feed 1 = .ok (.ifCond .lt 25, 3) := by decide +kernel
theorem dX7_feed_4 : decode cX7_feed 4 = .ok (.iload_n 1, 1) := by decide +kernel
theorem dX7_feed_5 : decode cX7_feed 5 = .ok (.sipush 255, 3) := by decide +kernel
theorem dX7_feed_8 : decode cX7_feed 8 = .ok (.if_icmp .gt 18, 3) := by decide +kernel
theorem dX7_feed_11 : decode cX7_feed 11 = .ok (.aload_n 0, 1) := by decide +kernel
theorem dX7_feed_12 : decode cX7_feed 12 = .ok (.getfield 51, 3) := by decide +kernel
theorem dX7_feed_15 : decode cX7_feed 15 = .ok (.iload_n 1, 1) := by decide +kernel
theorem dX7_feed_16 : decode cX7_feed 16 = .ok (.invokevirtual 102, 3) := by decide +kernel
theorem dX7_feed_19 : decode cX7_feed 19 = .ok (.ifCond .eq 7, 3) := by decide +kernel
theorem dX7_feed_22 : decode cX7_feed 22 = .ok (.iconst 1, 1) := by decide +kernel
theorem dX7_feed_23 : decode cX7_feed 23 = .ok (.goto 4, 3) := by decide +kernel
theorem dX7_feed_26 : decode cX7_feed 26 = .ok (.iconst 0, 1) := by decide +kernel
theorem dX7_feed_27 : decode cX7_feed 27 = .ok (.ireturn, 1) := by decide +kernel
theorem dX7_take_0 : decode cX7_take 0 = .ok (.aload_n 0, 1) := by decide +kernel
theorem dX7_take_1 : decode cX7_take 1 = .ok (.getfield 51, 3) := by decide +kernel
theorem dX7_take_4 : decode cX7_take 4 = .ok (.aload_n 0, 1) := by decide +kernel
theorem dX7_take_5 : decode cX7_take 5 = .ok (.getfield 42, 3) := by decide +kernel
theorem dX7_take_8 : decode cX7_take 8 = .ok (.invokevirtual 103, 3) := by decide +kernel
theorem dX7_take_11 : decode cX7_take 11 = .ok (.aload_n 0, 1) := by decide +kernel
theorem dX7_take_12 : decode cX7_take 12 = .ok (.getfield 51, 3) := by decide +kernel
theorem dX7_take_15 : decode cX7_take 15 = .ok (.getfield 72, 3) := by decide +kernel
theorem dX7_take_18 : decode cX7_take 18 = .ok (.ireturn, 1) := by decide +kernel
theorem dX7_read_0 : decode cX7_read 0 = .ok (.aload_n 0, 1) := by decide +kernel
theorem dX7_read_1 : decode cX7_read 1 = .ok (.getfield 28, 3) := by decide +kernel
theorem dX7_read_4 : decode cX7_read 4 = .ok (.invokevirtual 107, 3) := by decide +kernel
theorem dX7_read_7 : decode cX7_read 7 = .ok (.istore_n 1, 1) := by decide +kernel
theorem dX7_read_8 : decode cX7_read 8 = .ok (.aload_n 0, 1) := by decide +kernel
theorem dX7_read_9 : decode cX7_read 9 = .ok (.getfield 51, 3) := by decide +kernel
theorem dX7_read_12 : decode cX7_read 12 = .ok (.invokevirtual 111, 3) := by decide +kernel
theorem dX7_read_15 : decode cX7_read 15 = .ok (.iload_n 1, 1) := by decide +kernel
theorem dX7_read_16 : decode cX7_read 16 = .ok (.iconst (-1), 1) := by decide +kernel
theorem dX7_read_17 : decode cX7_read 17 = .ok (.if_icmp .ne 16, 3) := by decide +kernel
theorem dX7_read_20 : decode cX7_read 20 = .ok (.aload_n 0, 1) := by decide +kernel
theorem dX7_read_21 : decode cX7_read 21 = .ok (.getfield 28, 3) := by decide +kernel
theorem dX7_read_24 : decode cX7_read 24 = .ok (.getfield 114, 3) := by decide +kernel
theorem dX7_read_27 : decode cX7_read 27 = .ok (.getfield 64, 3) := by decide +kernel
theorem dX7_read_30 : decode cX7_read 30 = .ok (.goto 6, 3) := by decide +kernel
theorem dX7_read_33 : decode cX7_read 33 = .ok (.iconst (-1), 1) := by decide +kernel
theorem dX7_read_34 : decode cX7_read 34 = .ok (.iload_n 1, 1) := by decide +kernel
theorem dX7_read_35 : decode cX7_read 35 = .ok (.isub, 1) := by decide +kernel
theorem dX7_read_36 : decode cX7_read 36 = .ok (.ireturn, 1) := by decide +kernel
theorem dX7_value_0 : decode cX7_value 0 = .ok (.iload_n 1, 1) := by decide +kernel
theorem dX7_value_1 : decode cX7_value 1 = .ok (.ifCond .lt 31, 3) := by decide +kernel
theorem dX7_value_4 : decode cX7_value 4 = .ok (.iload_n 1, 1) := by decide +kernel
theorem dX7_value_5 : decode cX7_value 5 = .ok (.aload_n 0, 1) := by decide +kernel
theorem dX7_value_6 : decode cX7_value 6 = .ok (.getfield 28, 3) := by decide +kernel
theorem dX7_value_9 : decode cX7_value 9 = .ok (.getfield 114, 3) := by decide +kernel
theorem dX7_value_12 : decode cX7_value 12 = .ok (.getfield 64, 3) := by decide +kernel
theorem dX7_value_15 : decode cX7_value 15 = .ok (.if_icmp .ge 17, 3) := by decide +kernel
theorem dX7_value_18 : decode cX7_value 18 = .ok (.aload_n 0, 1) := by decide +kernel
theorem dX7_value_19 : decode cX7_value 19 = .ok (.getfield 28, 3) := by decide +kernel
theorem dX7_value_22 : decode cX7_value 22 = .ok (.getfield 114, 3) := by decide +kernel
theorem dX7_value_25 : decode cX7_value 25 = .ok (.iload_n 1, 1) := by decide +kernel
theorem dX7_value_26 : decode cX7_value 26 = .ok (.invokevirtual 115, 3) := by decide +kernel
theorem dX7_value_29 : decode cX7_value 29 = .ok (.goto 5, 3) := by decide +kernel
theorem dX7_value_32 : decode cX7_value 32 = .ok (.ldc 118, 2) := by decide +kernel
theorem dX7_value_34 : decode cX7_value 34 = .ok (.ireturn, 1) := by decide +kernel
theorem dX7_same_0 : decode cX7_same 0 = .ok (.aload_n 0, 1) := by decide +kernel
theorem dX7_same_1 : decode cX7_same 1 = .ok (.getfield 14, 3) := by decide +kernel
theorem dX7_same_4 : decode cX7_same 4 = .ok (.aload_n 0, 1) := by decide +kernel
theorem dX7_same_5 : decode cX7_same 5 = .ok (.getfield 28, 3) := by decide +kernel
theorem dX7_same_8 : decode cX7_same 8 = .ok (.getfield 114, 3) := by decide +kernel
theorem dX7_same_11 : decode cX7_same 11 = .ok (.invokevirtual 119, 3) := by decide +kernel
theorem dX7_same_14 : decode cX7_same 14 = .ok (.ireturn, 1) := by decide +kernel
theorem dX7_count_0 : decode cX7_count 0 = .ok (.iload_n 1, 1) := by decide +kernel
theorem dX7_count_1 : decode cX7_count 1 = .ok (.tableswitch 93 0 5 #[39, 47, 55, 63, 71, 82], 39) := by decide +kernel
theorem dX7_count_40 : decode cX7_count 40 = .ok (.aload_n 0, 1) := by decide +kernel
theorem dX7_count_41 : decode cX7_count 41 = .ok (.getfield 14, 3) := by decide +kernel
theorem dX7_count_44 : decode cX7_count 44 = .ok (.getfield 64, 3) := by decide +kernel
theorem dX7_count_47 : decode cX7_count 47 = .ok (.ireturn, 1) := by decide +kernel
theorem dX7_count_48 : decode cX7_count 48 = .ok (.aload_n 0, 1) := by decide +kernel
theorem dX7_count_49 : decode cX7_count 49 = .ok (.getfield 42, 3) := by decide +kernel
theorem dX7_count_52 : decode cX7_count 52 = .ok (.getfield 72, 3) := by decide +kernel
theorem dX7_count_55 : decode cX7_count 55 = .ok (.ireturn, 1) := by decide +kernel
theorem dX7_count_56 : decode cX7_count 56 = .ok (.aload_n 0, 1) := by decide +kernel
theorem dX7_count_57 : decode cX7_count 57 = .ok (.getfield 21, 3) := by decide +kernel
theorem dX7_count_60 : decode cX7_count 60 = .ok (.getfield 79, 3) := by decide +kernel
theorem dX7_count_63 : decode cX7_count 63 = .ok (.ireturn, 1) := by decide +kernel
theorem dX7_count_64 : decode cX7_count 64 = .ok (.aload_n 0, 1) := by decide +kernel
theorem dX7_count_65 : decode cX7_count 65 = .ok (.getfield 51, 3) := by decide +kernel
theorem dX7_count_68 : decode cX7_count 68 = .ok (.getfield 72, 3) := by decide +kernel
theorem dX7_count_71 : decode cX7_count 71 = .ok (.ireturn, 1) := by decide +kernel
theorem dX7_count_72 : decode cX7_count 72 = .ok (.aload_n 0, 1) := by decide +kernel
theorem dX7_count_73 : decode cX7_count 73 = .ok (.getfield 28, 3) := by decide +kernel
theorem dX7_count_76 : decode cX7_count 76 = .ok (.getfield 114, 3) := by decide +kernel
theorem dX7_count_79 : decode cX7_count 79 = .ok (.getfield 64, 3) := by decide +kernel
theorem dX7_count_82 : decode cX7_count 82 = .ok (.ireturn, 1) := by decide +kernel
theorem dX7_count_83 : decode cX7_count 83 = .ok (.aload_n 0, 1) := by decide +kernel
theorem dX7_count_84 : decode cX7_count 84 = .ok (.getfield 28, 3) := by decide +kernel
theorem dX7_count_87 : decode cX7_count 87 = .ok (.getfield 114, 3) := by decide +kernel
theorem dX7_count_90 : decode cX7_count 90 = .ok (.getfield 123, 3) := by decide +kernel
theorem dX7_count_93 : decode cX7_count 93 = .ok (.ireturn, 1) := by decide +kernel
theorem dX7_count_94 : decode cX7_count 94 = .ok (.iconst (-1), 1) := by decide +kernel
theorem dX7_count_95 : decode cX7_count 95 = .ok (.ireturn, 1) := by decide +kernel
theorem dX7_isSample_0 : decode cX7_isSample 0 = .ok (.iload_n 0, 1) := by decide +kernel
theorem dX7_isSample_1 : decode cX7_isSample 1 = .ok (.sipush (-32768), 3) := by decide +kernel
theorem dX7_isSample_4 : decode cX7_isSample 4 = .ok (.if_icmp .lt 14, 3) := by decide +kernel
theorem dX7_isSample_7 : decode cX7_isSample 7 = .ok (.iload_n 0, 1) := by decide +kernel
theorem dX7_isSample_8 : decode cX7_isSample 8 = .ok (.sipush 32767, 3) := by decide +kernel
theorem dX7_isSample_11 : decode cX7_isSample 11 = .ok (.if_icmp .gt 7, 3) := by decide +kernel
theorem dX7_isSample_14 : decode cX7_isSample 14 = .ok (.iconst 1, 1) := by decide +kernel
theorem dX7_isSample_15 : decode cX7_isSample 15 = .ok (.goto 4, 3) := by decide +kernel
theorem dX7_isSample_18 : decode cX7_isSample 18 = .ok (.iconst 0, 1) := by decide +kernel
theorem dX7_isSample_19 : decode cX7_isSample 19 = .ok (.ireturn, 1) := by decide +kernel
theorem dX7_numberBits_0 : decode cX7_numberBits 0 = .ok (.iload_n 1, 1) := by decide +kernel
theorem dX7_numberBits_1 : decode cX7_numberBits 1 = .ok (.iload_n 0, 1) := by decide +kernel
theorem dX7_numberBits_2 : decode cX7_numberBits 2 = .ok (.ishr, 1) := by decide +kernel
theorem dX7_numberBits_3 : decode cX7_numberBits 3 = .ok (.iconst 1, 1) := by decide +kernel
theorem dX7_numberBits_4 : decode cX7_numberBits 4 = .ok (.iadd, 1) := by decide +kernel
theorem dX7_numberBits_5 : decode cX7_numberBits 5 = .ok (.iload_n 0, 1) := by decide +kernel
theorem dX7_numberBits_6 : decode cX7_numberBits 6 = .ok (.iadd, 1) := by decide +kernel
theorem dX7_numberBits_7 : decode cX7_numberBits 7 = .ok (.ireturn, 1) := by decide +kernel
theorem dX7_fold_0 : decode cX7_fold 0 = .ok (.iload_n 0, 1) := by decide +kernel
theorem dX7_fold_1 : decode cX7_fold 1 = .ok (.ifCond .ge 12, 3) := by decide +kernel
theorem dX7_fold_4 : decode cX7_fold 4 = .ok (.bipush (-2), 2) := by decide +kernel
theorem dX7_fold_6 : decode cX7_fold 6 = .ok (.iload_n 0, 1) := by decide +kernel
theorem dX7_fold_7 : decode cX7_fold 7 = .ok (.imul, 1) := by decide +kernel
theorem dX7_fold_8 : decode cX7_fold 8 = .ok (.iconst 1, 1) := by decide +kernel
theorem dX7_fold_9 : decode cX7_fold 9 = .ok (.isub, 1) := by decide +kernel
theorem dX7_fold_10 : decode cX7_fold 10 = .ok (.goto 6, 3) := by decide +kernel
theorem dX7_fold_13 : decode cX7_fold 13 = .ok (.iconst 2, 1) := by decide +kernel
theorem dX7_fold_14 : decode cX7_fold 14 = .ok (.iload_n 0, 1) := by decide +kernel
theorem dX7_fold_15 : decode cX7_fold 15 = .ok (.imul, 1) := by decide +kernel
theorem dX7_fold_16 : decode cX7_fold 16 = .ok (.ireturn, 1) := by decide +kernel
theorem dX7_unfold_0 : decode cX7_unfold 0 = .ok (.iload_n 0, 1) := by decide +kernel
theorem dX7_unfold_1 : decode cX7_unfold 1 = .ok (.iconst 2, 1) := by decide +kernel
theorem dX7_unfold_2 : decode cX7_unfold 2 = .ok (.irem, 1) := by decide +kernel
theorem dX7_unfold_3 : decode cX7_unfold 3 = .ok (.ifCond .ne 9, 3) := by decide +kernel
theorem dX7_unfold_6 : decode cX7_unfold 6 = .ok (.iload_n 0, 1) := by decide +kernel
theorem dX7_unfold_7 : decode cX7_unfold 7 = .ok (.iconst 2, 1) := by decide +kernel
theorem dX7_unfold_8 : decode cX7_unfold 8 = .ok (.idiv, 1) := by decide +kernel
theorem dX7_unfold_9 : decode cX7_unfold 9 = .ok (.goto 9, 3) := by decide +kernel
theorem dX7_unfold_12 : decode cX7_unfold 12 = .ok (.iload_n 0, 1) := by decide +kernel
theorem dX7_unfold_13 : decode cX7_unfold 13 = .ok (.iconst 2, 1) := by decide +kernel
theorem dX7_unfold_14 : decode cX7_unfold 14 = .ok (.idiv, 1) := by decide +kernel
theorem dX7_unfold_15 : decode cX7_unfold 15 = .ok (.ineg, 1) := by decide +kernel
theorem dX7_unfold_16 : decode cX7_unfold 16 = .ok (.iconst 1, 1) := by decide +kernel
theorem dX7_unfold_17 : decode cX7_unfold 17 = .ok (.isub, 1) := by decide +kernel
theorem dX7_unfold_18 : decode cX7_unfold 18 = .ok (.ireturn, 1) := by decide +kernel
theorem dX7_roundedMean_0 : decode cX7_roundedMean 0 = .ok (.iload_n 1, 1) := by decide +kernel
theorem dX7_roundedMean_1 : decode cX7_roundedMean 1 = .ok (.iconst 1, 1) := by decide +kernel
theorem dX7_roundedMean_2 : decode cX7_roundedMean 2 = .ok (.if_icmp .ge 7, 3) := by decide +kernel
theorem dX7_roundedMean_5 : decode cX7_roundedMean 5 = .ok (.iconst 0, 1) := by decide +kernel
theorem dX7_roundedMean_6 : decode cX7_roundedMean 6 = .ok (.goto 12, 3) := by decide +kernel
theorem dX7_roundedMean_9 : decode cX7_roundedMean 9 = .ok (.iload_n 0, 1) := by decide +kernel
theorem dX7_roundedMean_10 : decode cX7_roundedMean 10 = .ok (.iload_n 1, 1) := by decide +kernel
theorem dX7_roundedMean_11 : decode cX7_roundedMean 11 = .ok (.iconst 2, 1) := by decide +kernel
theorem dX7_roundedMean_12 : decode cX7_roundedMean 12 = .ok (.idiv, 1) := by decide +kernel
theorem dX7_roundedMean_13 : decode cX7_roundedMean 13 = .ok (.iadd, 1) := by decide +kernel
theorem dX7_roundedMean_14 : decode cX7_roundedMean 14 = .ok (.iload_n 1, 1) := by decide +kernel
theorem dX7_roundedMean_15 : decode cX7_roundedMean 15 = .ok (.invokestatic 126, 3) := by decide +kernel
theorem dX7_roundedMean_18 : decode cX7_roundedMean 18 = .ok (.ireturn, 1) := by decide +kernel
theorem dJ9_floorDiv_7cf53_0 : decode cJ9_floorDiv_7cf53 0 = .ok (.iload_n 0, 1) := by decide +kernel
theorem dJ9_floorDiv_7cf53_1 : decode cJ9_floorDiv_7cf53 1 = .ok (.iload_n 1, 1) := by decide +kernel
theorem dJ9_floorDiv_7cf53_2 : decode cJ9_floorDiv_7cf53 2 = .ok (.idiv, 1) := by decide +kernel
theorem dJ9_floorDiv_7cf53_3 : decode cJ9_floorDiv_7cf53 3 = .ok (.istore_n 2, 1) := by decide +kernel
theorem dJ9_floorDiv_7cf53_4 : decode cJ9_floorDiv_7cf53 4 = .ok (.iload_n 0, 1) := by decide +kernel
theorem dJ9_floorDiv_7cf53_5 : decode cJ9_floorDiv_7cf53 5 = .ok (.iload_n 1, 1) := by decide +kernel
theorem dJ9_floorDiv_7cf53_6 : decode cJ9_floorDiv_7cf53 6 = .ok (.ixor, 1) := by decide +kernel
theorem dJ9_floorDiv_7cf53_7 : decode cJ9_floorDiv_7cf53 7 = .ok (.ifCond .ge 14, 3) := by decide +kernel
theorem dJ9_floorDiv_7cf53_10 : decode cJ9_floorDiv_7cf53 10 = .ok (.iload_n 2, 1) := by decide +kernel
theorem dJ9_floorDiv_7cf53_11 : decode cJ9_floorDiv_7cf53 11 = .ok (.iload_n 1, 1) := by decide +kernel
theorem dJ9_floorDiv_7cf53_12 : decode cJ9_floorDiv_7cf53 12 = .ok (.imul, 1) := by decide +kernel
theorem dJ9_floorDiv_7cf53_13 : decode cJ9_floorDiv_7cf53 13 = .ok (.iload_n 0, 1) := by decide +kernel
theorem dJ9_floorDiv_7cf53_14 : decode cJ9_floorDiv_7cf53 14 = .ok (.if_icmp .eq 7, 3) := by decide +kernel
theorem dJ9_floorDiv_7cf53_17 : decode cJ9_floorDiv_7cf53 17 = .ok (.iload_n 2, 1) := by decide +kernel
theorem dJ9_floorDiv_7cf53_18 : decode cJ9_floorDiv_7cf53 18 = .ok (.iconst 1, 1) := by decide +kernel
theorem dJ9_floorDiv_7cf53_19 : decode cJ9_floorDiv_7cf53 19 = .ok (.isub, 1) := by decide +kernel
theorem dJ9_floorDiv_7cf53_20 : decode cJ9_floorDiv_7cf53 20 = .ok (.ireturn, 1) := by decide +kernel
theorem dJ9_floorDiv_7cf53_21 : decode cJ9_floorDiv_7cf53 21 = .ok (.iload_n 2, 1) := by decide +kernel
theorem dJ9_floorDiv_7cf53_22 : decode cJ9_floorDiv_7cf53 22 = .ok (.ireturn, 1) := by decide +kernel
theorem dJ9_min_7cf53_0 : decode cJ9_min_7cf53 0 = .ok (.iload_n 0, 1) := by decide +kernel
theorem dJ9_min_7cf53_1 : decode cJ9_min_7cf53 1 = .ok (.iload_n 1, 1) := by decide +kernel
theorem dJ9_min_7cf53_2 : decode cJ9_min_7cf53 2 = .ok (.if_icmp .gt 7, 3) := by decide +kernel
theorem dJ9_min_7cf53_5 : decode cJ9_min_7cf53 5 = .ok (.iload_n 0, 1) := by decide +kernel
theorem dJ9_min_7cf53_6 : decode cJ9_min_7cf53 6 = .ok (.goto 4, 3) := by decide +kernel
theorem dJ9_min_7cf53_9 : decode cJ9_min_7cf53 9 = .ok (.iload_n 1, 1) := by decide +kernel
theorem dJ9_min_7cf53_10 : decode cJ9_min_7cf53 10 = .ok (.ireturn, 1) := by decide +kernel
