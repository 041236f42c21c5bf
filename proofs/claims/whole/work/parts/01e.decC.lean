theorem dX8_init_0 : decode cX8_init 0 = .ok (.aload_n 0, 1) := by decide +kernel
theorem dX8_init_1 : decode cX8_init 1 = .ok (.invokespecial 1, 3) := by decide +kernel
theorem dX8_init_4 : decode cX8_init 4 = .ok (.aload_n 0, 1) := by decide +kernel
theorem dX8_init_5 : decode cX8_init 5 = .ok (.iconst 1, 1) := by decide +kernel
theorem dX8_init_6 : decode cX8_init 6 = .ok (.putfield 7, 3) := by decide +kernel
theorem dX8_init_9 : decode cX8_init 9 = .ok (.aload_n 0, 1) := by decide +kernel
theorem dX8_init_10 : decode cX8_init 10 = .ok (.bipush 16, 2) := by decide +kernel
theorem dX8_init_12 : decode cX8_init 12 = .ok (.putfield 13, 3) := by decide +kernel
theorem dX8_init_15 : decode cX8_init 15 = .ok (.aload_n 0, 1) := by decide +kernel
theorem dX8_init_16 : decode cX8_init 16 = .ok (.sipush 800, 3) := by decide +kernel
theorem dX8_init_19 : decode cX8_init 19 = .ok (.newarray .int, 2) := by decide +kernel
theorem dX8_init_21 : decode cX8_init 21 = .ok (.putfield 16, 3) := by decide +kernel
theorem dX8_init_24 : decode cX8_init 24 = .ok (.aload_n 0, 1) := by decide +kernel
theorem dX8_init_25 : decode cX8_init 25 = .ok (.ldc 20, 2) := by decide +kernel
theorem dX8_init_27 : decode cX8_init 27 = .ok (.newarray .byte, 2) := by decide +kernel
theorem dX8_init_29 : decode cX8_init 29 = .ok (.putfield 21, 3) := by decide +kernel
theorem dX8_init_32 : decode cX8_init 32 = .ok (.aload_n 0, 1) := by decide +kernel
theorem dX8_init_33 : decode cX8_init 33 = .ok (.sipush 3200, 3) := by decide +kernel
theorem dX8_init_36 : decode cX8_init 36 = .ok (.newarray .int, 2) := by decide +kernel
theorem dX8_init_38 : decode cX8_init 38 = .ok (.putfield 25, 3) := by decide +kernel
theorem dX8_init_41 : decode cX8_init 41 = .ok (.aload_n 0, 1) := by decide +kernel
theorem dX8_init_42 : decode cX8_init 42 = .ok (.sipush 800, 3) := by decide +kernel
theorem dX8_init_45 : decode cX8_init 45 = .ok (.newarray .int, 2) := by decide +kernel
theorem dX8_init_47 : decode cX8_init 47 = .ok (.putfield 28, 3) := by decide +kernel
theorem dX8_init_50 : decode cX8_init 50 = .ok (.aload_n 0, 1) := by decide +kernel
theorem dX8_init_51 : decode cX8_init 51 = .ok (.sipush 3000, 3) := by decide +kernel
theorem dX8_init_54 : decode cX8_init 54 = .ok (.newarray .int, 2) := by decide +kernel
theorem dX8_init_56 : decode cX8_init 56 = .ok (.putfield 31, 3) := by decide +kernel
theorem dX8_init_59 : decode cX8_init 59 = .ok (.aload_n 0, 1) := by decide +kernel
theorem dX8_init_60 : decode cX8_init 60 = .ok (.sipush 800, 3) := by decide +kernel
theorem dX8_init_63 : decode cX8_init 63 = .ok (.newarray .int, 2) := by decide +kernel
theorem dX8_init_65 : decode cX8_init 65 = .ok (.putfield 34, 3) := by decide +kernel
theorem dX8_init_68 : decode cX8_init 68 = .ok (.aload_n 0, 1) := by decide +kernel
theorem dX8_init_69 : decode cX8_init 69 = .ok (.sipush 800, 3) := by decide +kernel
theorem dX8_init_72 : decode cX8_init 72 = .ok (.newarray .int, 2) := by decide +kernel
theorem dX8_init_74 : decode cX8_init 74 = .ok (.putfield 37, 3) := by decide +kernel
theorem dX8_init_77 : decode cX8_init 77 = .ok (.aload_n 0, 1) := by decide +kernel
theorem dX8_init_78 : decode cX8_init 78 = .ok (.bipush 8, 2) := by decide +kernel
theorem dX8_init_80 : decode cX8_init 80 = .ok (.newarray .int, 2) := by decide +kernel
theorem dX8_init_82 : decode cX8_init 82 = .ok (.putfield 40, 3) := by decide +kernel
theorem dX8_init_85 : decode cX8_init 85 = .ok (.return_, 1) := by decide +kernel
theorem dX8_settings_0 : decode cX8_settings 0 = .ok (.iload_n 1, 1) := by decide +kernel
theorem dX8_settings_1 : decode cX8_settings 1 = .ok (.iconst 1, 1) := by decide +kernel
theorem dX8_settings_2 : decode cX8_settings 2 = .ok (.if_icmp .lt 19, 3) := by decide +kernel
theorem dX8_settings_5 : decode cX8_settings 5 = .ok (.iload_n 1, 1) := by decide +kernel
theorem dX8_settings_6 : decode cX8_settings 6 = .ok (.iconst 2, 1) := by decide +kernel
theorem dX8_settings_7 : decode cX8_settings 7 = .ok (.if_icmp .gt 14, 3) := by decide +kernel
theorem dX8_settings_10 : decode cX8_settings 10 = .ok (.iload_n 2, 1) := by decide +kernel
theorem dX8_settings_11 : decode cX8_settings 11 = .ok (.iconst 1, 1) := by decide +kernel
theorem dX8_settings_12 : decode cX8_settings 12 = .ok (.if_icmp .lt 9, 3) := by decide +kernel
theorem dX8_settings_15 : decode cX8_settings 15 = .ok (.iload_n 2, 1) := by decide +kernel
theorem dX8_settings_16 : decode cX8_settings 16 = .ok (.bipush 64, 2) := by decide +kernel
theorem dX8_settings_18 : decode cX8_settings 18 = .ok (.if_icmp .le 5, 3) := by decide +kernel
theorem dX8_settings_21 : decode cX8_settings 21 = .ok (.iconst 0, 1) := by decide +kernel
theorem dX8_settings_22 : decode cX8_settings 22 = .ok (.ireturn, 1) := by decide +kernel
theorem dX8_settings_23 : decode cX8_settings 23 = .ok (.aload_n 0, 1) := by decide +kernel
theorem dX8_settings_24 : decode cX8_settings 24 = .ok (.iload_n 1, 1) := by decide +kernel
theorem dX8_settings_25 : decode cX8_settings 25 = .ok (.putfield 7, 3) := by decide +kernel
theorem dX8_settings_28 : decode cX8_settings 28 = .ok (.aload_n 0, 1) := by decide +kernel
theorem dX8_settings_29 : decode cX8_settings 29 = .ok (.iload_n 2, 1) := by decide +kernel
theorem dX8_settings_30 : decode cX8_settings 30 = .ok (.putfield 13, 3) := by decide +kernel
theorem dX8_settings_33 : decode cX8_settings 33 = .ok (.aload_n 0, 1) := by decide +kernel
theorem dX8_settings_34 : decode cX8_settings 34 = .ok (.iconst 0, 1) := by decide +kernel
theorem dX8_settings_35 : decode cX8_settings 35 = .ok (.putfield 43, 3) := by decide +kernel
theorem dX8_settings_38 : decode cX8_settings 38 = .ok (.iconst 1, 1) := by decide +kernel
theorem dX8_settings_39 : decode cX8_settings 39 = .ok (.ireturn, 1) := by decide +kernel
theorem dX8_sample_0 : decode cX8_sample 0 = .ok (.iload_n 1, 1) := by decide +kernel
theorem dX8_sample_1 : decode cX8_sample 1 = .ok (.sipush (-32768), 3) := by decide +kernel
theorem dX8_sample_4 : decode cX8_sample 4 = .ok (.if_icmp .lt 25, 3) := by decide +kernel
theorem dX8_sample_7 : decode cX8_sample 7 = .ok (.iload_n 1, 1) := by decide +kernel
theorem dX8_sample_8 : decode cX8_sample 8 = .ok (.sipush 32767, 3) := by decide +kernel
theorem dX8_sample_11 : decode cX8_sample 11 = .ok (.if_icmp .gt 18, 3) := by decide +kernel
theorem dX8_sample_14 : decode cX8_sample 14 = .ok (.aload_n 0, 1) := by decide +kernel
theorem dX8_sample_15 : decode cX8_sample 15 = .ok (.getfield 43, 3) := by decide +kernel
theorem dX8_sample_18 : decode cX8_sample 18 = .ok (.sipush 400, 3) := by decide +kernel
theorem dX8_sample_21 : decode cX8_sample 21 = .ok (.aload_n 0, 1) := by decide +kernel
theorem dX8_sample_22 : decode cX8_sample 22 = .ok (.getfield 7, 3) := by decide +kernel
theorem dX8_sample_25 : decode cX8_sample 25 = .ok (.imul, 1) := by decide +kernel
theorem dX8_sample_26 : decode cX8_sample 26 = .ok (.if_icmp .ne 5, 3) := by decide +kernel
theorem dX8_sample_29 : decode cX8_sample 29 = .ok (.iconst (-1), 1) := by decide +kernel
theorem dX8_sample_30 : decode cX8_sample 30 = .ok (.ireturn, 1) := by decide +kernel
theorem dX8_sample_31 : decode cX8_sample 31 = .ok (.aload_n 0, 1) := by decide +kernel
theorem dX8_sample_32 : decode cX8_sample 32 = .ok (.getfield 16, 3) := by decide +kernel
theorem dX8_sample_35 : decode cX8_sample 35 = .ok (.aload_n 0, 1) := by decide +kernel
theorem dX8_sample_36 : decode cX8_sample 36 = .ok (.getfield 43, 3) := by decide +kernel
theorem dX8_sample_39 : decode cX8_sample 39 = .ok (.iload_n 1, 1) := by decide +kernel
theorem dX8_sample_40 : decode cX8_sample 40 = .ok (.iastore, 1) := by decide +kernel
theorem dX8_sample_41 : decode cX8_sample 41 = .ok (.aload_n 0, 1) := by decide +kernel
theorem dX8_sample_42 : decode cX8_sample 42 = .ok (.dup, 1) := by decide +kernel
theorem dX8_sample_43 : decode cX8_sample 43 = .ok (.getfield 43, 3) := by decide +kernel
theorem dX8_sample_46 : decode cX8_sample 46 = .ok (.iconst 1, 1) := by decide +kernel
theorem dX8_sample_47 : decode cX8_sample 47 = .ok (.iadd, 1) := by decide +kernel
theorem dX8_sample_48 : decode cX8_sample 48 = .ok (.putfield 43, 3) := by decide +kernel
theorem dX8_sample_51 : decode cX8_sample 51 = .ok (.aload_n 0, 1) := by decide +kernel
theorem dX8_sample_52 : decode cX8_sample 52 = .ok (.getfield 43, 3) := by decide +kernel
theorem dX8_sample_55 : decode cX8_sample 55 = .ok (.ireturn, 1) := by decide +kernel
theorem dX8_forgetMeans_0 : decode cX8_forgetMeans 0 = .ok (.iconst 0, 1) := by decide +kernel
theorem dX8_forgetMeans_1 : decode cX8_forgetMeans 1 = .ok (.istore_n 1, 1) := by decide +kernel
theorem dX8_forgetMeans_2 : decode cX8_forgetMeans 2 = .ok (.iload_n 1, 1) := by decide +kernel
theorem dX8_forgetMeans_3 : decode cX8_forgetMeans 3 = .ok (.bipush 8, 2) := by decide +kernel
theorem dX8_forgetMeans_5 : decode cX8_forgetMeans 5 = .ok (.if_icmp .ge 16, 3) := by decide +kernel
theorem dX8_forgetMeans_8 : decode cX8_forgetMeans 8 = .ok (.aload_n 0, 1) := by decide +kernel
theorem dX8_forgetMeans_9 : decode cX8_forgetMeans 9 = .ok (.getfield 40, 3) := by decide +kernel
theorem dX8_forgetMeans_12 : decode cX8_forgetMeans 12 = .ok (.iload_n 1, 1) := by decide +kernel
theorem dX8_forgetMeans_13 : decode cX8_forgetMeans 13 = .ok (.iconst 0, 1) := by decide +kernel
theorem dX8_forgetMeans_14 : decode cX8_forgetMeans 14 = .ok (.iastore, 1) := by decide +kernel
theorem dX8_forgetMeans_15 : decode cX8_forgetMeans 15 = .ok (.iinc 1 1, 3) := by decide +kernel
theorem dX8_forgetMeans_18 : decode cX8_forgetMeans 18 = .ok (.goto (-16), 3) := by decide +kernel
theorem dX8_forgetMeans_21 : decode cX8_forgetMeans 21 = .ok (.return_, 1) := by decide +kernel
theorem dX8_rounded_0 : decode cX8_rounded 0 = .ok (.lload_n 0, 1) := by decide +kernel
theorem dX8_rounded_1 : decode cX8_rounded 1 = .ok (.iload_n 2, 1) := by decide +kernel
theorem dX8_rounded_2 : decode cX8_rounded 2 = .ok (.iconst 2, 1) := by decide +kernel
theorem dX8_rounded_3 : decode cX8_rounded 3 = .ok (.idiv, 1) := by decide +kernel
theorem dX8_rounded_4 : decode cX8_rounded 4 = .ok (.i2l, 1) := by decide +kernel
theorem dX8_rounded_5 : decode cX8_rounded 5 = .ok (.ladd, 1) := by decide +kernel
theorem dX8_rounded_6 : decode cX8_rounded 6 = .ok (.lstore_n 3, 1) := by decide +kernel
theorem dX8_rounded_7 : decode cX8_rounded 7 = .ok (.lload_n 3, 1) := by decide +kernel
theorem dX8_rounded_8 : decode cX8_rounded 8 = .ok (.iload_n 2, 1) := by decide +kernel
theorem dX8_rounded_9 : decode cX8_rounded 9 = .ok (.i2l, 1) := by decide +kernel
theorem dX8_rounded_10 : decode cX8_rounded 10 = .ok (.ldiv, 1) := by decide +kernel
theorem dX8_rounded_11 : decode cX8_rounded 11 = .ok (.lstore 5, 2) := by decide +kernel
theorem dX8_rounded_13 : decode cX8_rounded 13 = .ok (.lload 5, 2) := by decide +kernel
theorem dX8_rounded_15 : decode cX8_rounded 15 = .ok (.iload_n 2, 1) := by decide +kernel
theorem dX8_rounded_16 : decode cX8_rounded 16 = .ok (.i2l, 1) := by decide +kernel
theorem dX8_rounded_17 : decode cX8_rounded 17 = .ok (.lmul, 1) := by decide +kernel
theorem dX8_rounded_18 : decode cX8_rounded 18 = .ok (.lload_n 3, 1) := by decide +kernel
theorem dX8_rounded_19 : decode cX8_rounded 19 = .ok (.lcmp, 1) := by decide +kernel
theorem dX8_rounded_20 : decode cX8_rounded 20 = .ok (.ifCond .le 10, 3) := by decide +kernel
theorem dX8_rounded_23 : decode cX8_rounded 23 = .ok (.lload 5, 2) := by decide +kernel
theorem dX8_rounded_25 : decode cX8_rounded 25 = .ok (.lconst 1, 1) := by decide +kernel
theorem dX8_rounded_26 : decode cX8_rounded 26 = .ok (.lsub, 1) := by decide +kernel
theorem dX8_rounded_27 : decode cX8_rounded 27 = .ok (.goto 5, 3) := by decide +kernel
theorem dX8_rounded_30 : decode cX8_rounded 30 = .ok (.lload 5, 2) := by decide +kernel
theorem dX8_rounded_32 : decode cX8_rounded 32 = .ok (.l2i, 1) := by decide +kernel
theorem dX8_rounded_33 : decode cX8_rounded 33 = .ok (.ireturn, 1) := by decide +kernel
theorem dX8_meanOf_0 : decode cX8_meanOf 0 = .ok (.aload_n 0, 1) := by decide +kernel
theorem dX8_meanOf_1 : decode cX8_meanOf 1 = .ok (.getfield 40, 3) := by decide +kernel
theorem dX8_meanOf_4 : decode cX8_meanOf 4 = .ok (.iconst 4, 1) := by decide +kernel
theorem dX8_meanOf_5 : decode cX8_meanOf 5 = .ok (.iload_n 1, 1) := by decide +kernel
theorem dX8_meanOf_6 : decode cX8_meanOf 6 = .ok (.imul, 1) := by decide +kernel
theorem dX8_meanOf_7 : decode cX8_meanOf 7 = .ok (.iaload, 1) := by decide +kernel
theorem dX8_meanOf_8 : decode cX8_meanOf 8 = .ok (.i2l, 1) := by decide +kernel
theorem dX8_meanOf_9 : decode cX8_meanOf 9 = .ok (.aload_n 0, 1) := by decide +kernel
theorem dX8_meanOf_10 : decode cX8_meanOf 10 = .ok (.getfield 40, 3) := by decide +kernel
theorem dX8_meanOf_13 : decode cX8_meanOf 13 = .ok (.iconst 4, 1) := by decide +kernel
theorem dX8_meanOf_14 : decode cX8_meanOf 14 = .ok (.iload_n 1, 1) := by decide +kernel
theorem dX8_meanOf_15 : decode cX8_meanOf 15 = .ok (.imul, 1) := by decide +kernel
theorem dX8_meanOf_16 : decode cX8_meanOf 16 = .ok (.iconst 1, 1) := by decide +kernel
theorem dX8_meanOf_17 : decode cX8_meanOf 17 = .ok (.iadd, 1) := by decide +kernel
theorem dX8_meanOf_18 : decode cX8_meanOf 18 = .ok (.iaload, 1) := by decide +kernel
theorem dX8_meanOf_19 : decode cX8_meanOf 19 = .ok (.i2l, 1) := by decide +kernel
theorem dX8_meanOf_20 : decode cX8_meanOf 20 = .ok (.ladd, 1) := by decide +kernel
theorem dX8_meanOf_21 : decode cX8_meanOf 21 = .ok (.aload_n 0, 1) := by decide +kernel
theorem dX8_meanOf_22 : decode cX8_meanOf 22 = .ok (.getfield 40, 3) := by decide +kernel
theorem dX8_meanOf_25 : decode cX8_meanOf 25 = .ok (.iconst 4, 1) := by decide +kernel
theorem dX8_meanOf_26 : decode cX8_meanOf 26 = .ok (.iload_n 1, 1) := by decide +kernel
theorem dX8_meanOf_27 : decode cX8_meanOf 27 = .ok (.imul, 1) := by decide +kernel
theorem dX8_meanOf_28 : decode cX8_meanOf 28 = .ok (.iconst 2, 1) := by decide +kernel
theorem dX8_meanOf_29 : decode cX8_meanOf 29 = .ok (.iadd, 1) := by decide +kernel
theorem dX8_meanOf_30 : decode cX8_meanOf 30 = .ok (.iaload, 1) := by decide +kernel
theorem dX8_meanOf_31 : decode cX8_meanOf 31 = .ok (.i2l, 1) := by decide +kernel
theorem dX8_meanOf_32 : decode cX8_meanOf 32 = .ok (.ladd, 1) := by decide +kernel
theorem dX8_meanOf_33 : decode cX8_meanOf 33 = .ok (.aload_n 0, 1) := by decide +kernel
theorem dX8_meanOf_34 : decode cX8_meanOf 34 = .ok (.getfield 40, 3) := by decide +kernel
theorem dX8_meanOf_37 : decode cX8_meanOf 37 = .ok (.iconst 4, 1) := by decide +kernel
theorem dX8_meanOf_38 : decode cX8_meanOf 38 = .ok (.iload_n 1, 1) := by decide +kernel
theorem dX8_meanOf_39 : decode cX8_meanOf 39 = .ok (.imul, 1) := by decide +kernel
theorem dX8_meanOf_40 : decode cX8_meanOf 40 = .ok (.iconst 3, 1) := by decide +kernel
theorem dX8_meanOf_41 : decode cX8_meanOf 41 = .ok (.iadd, 1) := by decide +kernel
theorem dX8_meanOf_42 : decode cX8_meanOf 42 = .ok (.iaload, 1) := by decide +kernel
theorem dX8_meanOf_43 : decode cX8_meanOf 43 = .ok (.i2l, 1) := by decide +kernel
theorem dX8_meanOf_44 : decode cX8_meanOf 44 = .ok (.ladd, 1) := by decide +kernel
theorem dX8_meanOf_45 : decode cX8_meanOf 45 = .ok (.iconst 4, 1) := by decide +kernel
theorem dX8_meanOf_46 : decode cX8_meanOf 46 = .ok (.invokestatic 46, 3) := by decide +kernel
theorem dX8_meanOf_49 : decode cX8_meanOf 49 = .ok (.ireturn, 1) := by decide +kernel
theorem dX8_noteMean_0 : decode cX8_noteMean 0 = .ok (.iconst 4, 1) := by decide +kernel
theorem dX8_noteMean_1 : decode cX8_noteMean 1 = .ok (.iload_n 1, 1) := by decide +kernel
theorem dX8_noteMean_2 : decode cX8_noteMean 2 = .ok (.imul, 1) := by decide +kernel
theorem dX8_noteMean_3 : decode cX8_noteMean 3 = .ok (.istore 5, 2) := by decide +kernel
theorem dX8_noteMean_5 : decode cX8_noteMean 5 = .ok (.iload 5, 2) := by decide +kernel
theorem dX8_noteMean_7 : decode cX8_noteMean 7 = .ok (.iconst 4, 1) := by decide +kernel
theorem dX8_noteMean_8 : decode cX8_noteMean 8 = .ok (.iload_n 1, 1) := by decide +kernel
theorem dX8_noteMean_9 : decode cX8_noteMean 9 = .ok (.imul, 1) := by decide +kernel
theorem dX8_noteMean_10 : decode cX8_noteMean 10 = .ok (.iconst 3, 1) := by decide +kernel
theorem dX8_noteMean_11 : decode cX8_noteMean 11 = .ok (.iadd, 1) := by decide +kernel
theorem dX8_noteMean_12 : decode cX8_noteMean 12 = .ok (.if_icmp .ge 25, 3) := by decide +kernel
theorem dX8_noteMean_15 : decode cX8_noteMean 15 = .ok (.aload_n 0, 1) := by decide +kernel
theorem dX8_noteMean_16 : decode cX8_noteMean 16 = .ok (.getfield 40, 3) := by decide +kernel
theorem dX8_noteMean_19 : decode cX8_noteMean 19 = .ok (.iload 5, 2) := by decide +kernel
theorem dX8_noteMean_21 : decode cX8_noteMean 21 = .ok (.aload_n 0, 1) := by decide +kernel
theorem dX8_noteMean_22 : decode cX8_noteMean 22 = .ok (.getfield 40, 3) := by decide +kernel
theorem dX8_noteMean_25 : decode cX8_noteMean 25 = .ok (.iload 5, 2) := by decide +kernel
theorem dX8_noteMean_27 : decode cX8_noteMean 27 = .ok (.iconst 1, 1) := by decide +kernel
theorem dX8_noteMean_28 : decode cX8_noteMean 28 = .ok (.iadd, 1) := by decide +kernel
theorem dX8_noteMean_29 : decode cX8_noteMean 29 = .ok (.iaload, 1) := by decide +kernel
theorem dX8_noteMean_30 : decode cX8_noteMean 30 = .ok (.iastore, 1) := by decide +kernel
theorem dX8_noteMean_31 : decode cX8_noteMean 31 = .ok (.iinc 5 1, 3) := by decide +kernel
theorem dX8_noteMean_34 : decode cX8_noteMean 34 = .ok (.goto (-29), 3) := by decide +kernel
theorem dX8_noteMean_37 : decode cX8_noteMean 37 = .ok (.aload_n 0, 1) := by decide +kernel
theorem dX8_noteMean_38 : decode cX8_noteMean 38 = .ok (.getfield 40, 3) := by decide +kernel
theorem dX8_noteMean_41 : decode cX8_noteMean 41 = .ok (.iconst 4, 1) := by decide +kernel
theorem dX8_noteMean_42 : decode cX8_noteMean 42 = .ok (.iload_n 1, 1) := by decide +kernel
theorem dX8_noteMean_43 : decode cX8_noteMean 43 = .ok (.imul, 1) := by decide +kernel
theorem dX8_noteMean_44 : decode cX8_noteMean 44 = .ok (.iconst 3, 1) := by decide +kernel
theorem dX8_noteMean_45 : decode cX8_noteMean 45 = .ok (.iadd, 1) := by decide +kernel
theorem dX8_noteMean_46 : decode cX8_noteMean 46 = .ok (.lload_n 2, 1) := by decide +kernel
theorem dX8_noteMean_47 : decode cX8_noteMean 47 = .ok (.iload 4, 2) := by decide +kernel
theorem dX8_noteMean_49 : decode cX8_noteMean 49 = .ok (.invokestatic 46, 3) := by decide +kernel
theorem dX8_noteMean_52 : decode cX8_noteMean 52 = .ok (.iastore, 1) := by decide +kernel
theorem dX8_noteMean_53 : decode cX8_noteMean 53 = .ok (.return_, 1) := by decide +kernel
theorem dX8_before_0 : decode cX8_before 0 = .ok (.iload_n 1, 1) := by decide +kernel
theorem dX8_before_1 : decode cX8_before 1 = .ok (.iload_n 2, 1) := by decide +kernel
theorem dX8_before_2 : decode cX8_before 2 = .ok (.iload_n 3, 1) := by decide +kernel
theorem dX8_before_3 : decode cX8_before 3 = .ok (.imul, 1) := by decide +kernel
theorem dX8_before_4 : decode cX8_before 4 = .ok (.isub, 1) := by decide +kernel
theorem dX8_before_5 : decode cX8_before 5 = .ok (.istore 4, 2) := by decide +kernel
theorem dX8_before_7 : decode cX8_before 7 = .ok (.iload 4, 2) := by decide +kernel
theorem dX8_before_9 : decode cX8_before 9 = .ok (.ifCond .ge 7, 3) := by decide +kernel
theorem dX8_before_12 : decode cX8_before 12 = .ok (.iconst 0, 1) := by decide +kernel
theorem dX8_before_13 : decode cX8_before 13 = .ok (.goto 7, 3) := by decide +kernel
theorem dX8_before_16 : decode cX8_before 16 = .ok (.aload_n 0, 1) := by decide +kernel
theorem dX8_before_17 : decode cX8_before 17 = .ok (.iload 4, 2) := by decide +kernel
theorem dX8_before_19 : decode cX8_before 19 = .ok (.iaload, 1) := by decide +kernel
theorem dX8_before_20 : decode cX8_before 20 = .ok (.ireturn, 1) := by decide +kernel
theorem dX8_ahead_0 : decode cX8_ahead 0 = .ok (.aload_n 1, 1) := by decide +kernel
theorem dX8_ahead_1 : decode cX8_ahead 1 = .ok (.iload_n 2, 1) := by decide +kernel
theorem dX8_ahead_2 : decode cX8_ahead 2 = .ok (.iload_n 3, 1) := by decide +kernel
theorem dX8_ahead_3 : decode cX8_ahead 3 = .ok (.iconst 1, 1) := by decide +kernel
theorem dX8_ahead_4 : decode cX8_ahead 4 = .ok (.invokestatic 50, 3) := by decide +kernel
theorem dX8_ahead_7 : decode cX8_ahead 7 = .ok (.istore 5, 2) := by decide +kernel
theorem dX8_ahead_9 : decode cX8_ahead 9 = .ok (.aload_n 1, 1) := by decide +kernel
theorem dX8_ahead_10 : decode cX8_ahead 10 = .ok (.iload_n 2, 1) := by decide +kernel
theorem dX8_ahead_11 : decode cX8_ahead 11 = .ok (.iload_n 3, 1) := by decide +kernel
theorem dX8_ahead_12 : decode cX8_ahead 12 = .ok (.iconst 2, 1) := by decide +kernel
theorem dX8_ahead_13 : decode cX8_ahead 13 = .ok (.invokestatic 50, 3) := by decide +kernel
theorem dX8_ahead_16 : decode cX8_ahead 16 = .ok (.istore 6, 2) := by decide +kernel
theorem dX8_ahead_18 : decode cX8_ahead 18 = .ok (.aload_n 1, 1) := by decide +kernel
theorem dX8_ahead_19 : decode cX8_ahead 19 = .ok (.iload_n 2, 1) := by decide +kernel
theorem dX8_ahead_20 : decode cX8_ahead 20 = .ok (.iload_n 3, 1) := by decide +kernel
theorem dX8_ahead_21 : decode cX8_ahead 21 = .ok (.iconst 3, 1) := by decide +kernel
theorem dX8_ahead_22 : decode cX8_ahead 22 = .ok (.invokestatic 50, 3) := by decide +kernel
theorem dX8_ahead_25 : decode cX8_ahead 25 = .ok (.istore 7, 2) := by decide +kernel
theorem dX8_ahead_27 : decode cX8_ahead 27 = .ok (.iload_n 0, 1) := by decide +kernel
theorem dX8_ahead_28 : decode cX8_ahead 28 = .ok (.tableswitch 42 0 2 #[28, 31, 34], 28) := by decide +kernel
theorem dX8_ahead_56 : decode cX8_ahead 56 = .ok (.iload 4, 2) := by decide +kernel
theorem dX8_ahead_58 : decode cX8_ahead 58 = .ok (.ireturn, 1) := by decide +kernel
theorem dX8_ahead_59 : decode cX8_ahead 59 = .ok (.iload 5, 2) := by decide +kernel
theorem dX8_ahead_61 : decode cX8_ahead 61 = .ok (.ireturn, 1) := by decide +kernel
theorem dX8_ahead_62 : decode cX8_ahead 62 = .ok (.iconst 2, 1) := by decide +kernel
theorem dX8_ahead_63 : decode cX8_ahead 63 = .ok (.iload 5, 2) := by decide +kernel
theorem dX8_ahead_65 : decode cX8_ahead 65 = .ok (.imul, 1) := by decide +kernel
theorem dX8_ahead_66 : decode cX8_ahead 66 = .ok (.iload 6, 2) := by decide +kernel
theorem dX8_ahead_68 : decode cX8_ahead 68 = .ok (.isub, 1) := by decide +kernel
theorem dX8_ahead_69 : decode cX8_ahead 69 = .ok (.ireturn, 1) := by decide +kernel
theorem dX8_ahead_70 : decode cX8_ahead 70 = .ok (.iconst 3, 1) := by decide +kernel
theorem dX8_ahead_71 : decode cX8_ahead 71 = .ok (.iload 5, 2) := by decide +kernel
theorem dX8_ahead_73 : decode cX8_ahead 73 = .ok (.imul, 1) := by decide +kernel
theorem dX8_ahead_74 : decode cX8_ahead 74 = .ok (.iconst 3, 1) := by decide +kernel
theorem dX8_ahead_75 : decode cX8_ahead 75 = .ok (.iload 6, 2) := by decide +kernel
theorem dX8_ahead_77 : decode cX8_ahead 77 = .ok (.imul, 1) := by decide +kernel
theorem dX8_ahead_78 : decode cX8_ahead 78 = .ok (.isub, 1) := by decide +kernel
theorem dX8_ahead_79 : decode cX8_ahead 79 = .ok (.iload 7, 2) := by decide +kernel
theorem dX8_ahead_81 : decode cX8_ahead 81 = .ok (.iadd, 1) := by decide +kernel
theorem dX8_ahead_82 : decode cX8_ahead 82 = .ok (.ireturn, 1) := by decide +kernel
theorem dX8_putBit_0 : decode cX8_putBit 0 = .ok (.aload_n 0, 1) := by decide +kernel
theorem dX8_putBit_1 : decode cX8_putBit 1 = .ok (.getfield 21, 3) := by decide +kernel
theorem dX8_putBit_4 : decode cX8_putBit 4 = .ok (.aload_n 0, 1) := by decide +kernel
theorem dX8_putBit_5 : decode cX8_putBit 5 = .ok (.getfield 54, 3) := by decide +kernel
theorem dX8_putBit_8 : decode cX8_putBit 8 = .ok (.iload_n 1, 1) := by decide +kernel
theorem dX8_putBit_9 : decode cX8_putBit 9 = .ok (.i2b, 1) := by decide +kernel
theorem dX8_putBit_10 : decode cX8_putBit 10 = .ok (.bastore, 1) := by decide +kernel
theorem dX8_putBit_11 : decode cX8_putBit 11 = .ok (.aload_n 0, 1) := by decide +kernel
theorem dX8_putBit_12 : decode cX8_putBit 12 = .ok (.dup, 1) := by decide +kernel
theorem dX8_putBit_13 : decode cX8_putBit 13 = .ok (.getfield 54, 3) := by decide +kernel
theorem dX8_putBit_16 : decode cX8_putBit 16 = .ok (.iconst 1, 1) := by decide +kernel
theorem dX8_putBit_17 : decode cX8_putBit 17 = .ok (.iadd, 1) := by decide +kernel
theorem dX8_putBit_18 : decode cX8_putBit 18 = .ok (.putfield 54, 3) := by decide +kernel
theorem dX8_putBit_21 : decode cX8_putBit 21 = .ok (.return_, 1) := by decide +kernel
theorem dX8_putNumber_0 : decode cX8_putNumber 0 = .ok (.iload_n 2, 1) := by decide +kernel
theorem dX8_putNumber_1 : decode cX8_putNumber 1 = .ok (.iload_n 1, 1) := by decide +kernel
theorem dX8_putNumber_2 : decode cX8_putNumber 2 = .ok (.ishr, 1) := by decide +kernel
theorem dX8_putNumber_3 : decode cX8_putNumber 3 = .ok (.istore_n 3, 1) := by decide +kernel
theorem dX8_putNumber_4 : decode cX8_putNumber 4 = .ok (.iload_n 3, 1) := by decide +kernel
theorem dX8_putNumber_5 : decode cX8_putNumber 5 = .ok (.ifCond .le 14, 3) := by decide +kernel
theorem dX8_putNumber_8 : decode cX8_putNumber 8 = .ok (.aload_n 0, 1) := by decide +kernel
theorem dX8_putNumber_9 : decode cX8_putNumber 9 = .ok (.iconst 0, 1) := by decide +kernel
theorem dX8_putNumber_10 : decode cX8_putNumber 10 = .ok (.invokevirtual 57, 3) := by decide +kernel
theorem dX8_putNumber_13 : decode cX8_putNumber 13 = .ok (.iinc 3 (-1), 3) := by decide +kernel
theorem dX8_putNumber_16 : decode cX8_putNumber 16 = .ok (.goto (-12), 3) := by decide +kernel
theorem dX8_putNumber_19 : decode cX8_putNumber 19 = .ok (.aload_n 0, 1) := by decide +kernel
theorem dX8_putNumber_20 : decode cX8_putNumber 20 = .ok (.iconst 1, 1) := by decide +kernel
theorem dX8_putNumber_21 : decode cX8_putNumber 21 = .ok (.invokevirtual 57, 3) := by decide +kernel
theorem dX8_putNumber_24 : decode cX8_putNumber 24 = .ok (.iload_n 1, 1) := by decide +kernel
theorem dX8_putNumber_25 : decode cX8_putNumber 25 = .ok (.iconst 1, 1) := by decide +kernel
theorem dX8_putNumber_26 : decode cX8_putNumber 26 = .ok (.isub, 1) := by decide +kernel
theorem dX8_putNumber_27 : decode cX8_putNumber 27 = .ok (.istore_n 3, 1) := by decide +kernel
theorem dX8_putNumber_28 : decode cX8_putNumber 28 = .ok (.iload_n 3, 1) := by decide +kernel
theorem dX8_putNumber_29 : decode cX8_putNumber 29 = .ok (.ifCond .lt 18, 3) := by decide +kernel
theorem dX8_putNumber_32 : decode cX8_putNumber 32 = .ok (.aload_n 0, 1) := by decide +kernel
theorem dX8_putNumber_33 : decode cX8_putNumber 33 = .ok (.iload_n 2, 1) := by decide +kernel
theorem dX8_putNumber_34 : decode cX8_putNumber 34 = .ok (.iload_n 3, 1) := by decide +kernel
theorem dX8_putNumber_35 : decode cX8_putNumber 35 = .ok (.ishr, 1) := by decide +kernel
theorem dX8_putNumber_36 : decode cX8_putNumber 36 = .ok (.iconst 1, 1) := by decide +kernel
theorem dX8_putNumber_37 : decode cX8_putNumber 37 = .ok (.iand, 1) := by decide +kernel
theorem dX8_putNumber_38 : decode cX8_putNumber 38 = .ok (.invokevirtual 57, 3) := by decide +kernel
theorem dX8_putNumber_41 : decode cX8_putNumber 41 = .ok (.iinc 3 (-1), 3) := by decide +kernel
theorem dX8_putNumber_44 : decode cX8_putNumber 44 = .ok (.goto (-16), 3) := by decide +kernel
theorem dX8_putNumber_47 : decode cX8_putNumber 47 = .ok (.return_, 1) := by decide +kernel
theorem dX8_folded_0 : decode cX8_folded 0 = .ok (.iload_n 0, 1) := by decide +kernel
theorem dX8_folded_1 : decode cX8_folded 1 = .ok (.ifCond .ge 12, 3) := by decide +kernel
theorem dX8_folded_4 : decode cX8_folded 4 = .ok (.bipush (-2), 2) := by decide +kernel
theorem dX8_folded_6 : decode cX8_folded 6 = .ok (.iload_n 0, 1) := by decide +kernel
theorem dX8_folded_7 : decode cX8_folded 7 = .ok (.imul, 1) := by decide +kernel
theorem dX8_folded_8 : decode cX8_folded 8 = .ok (.iconst 1, 1) := by decide +kernel
theorem dX8_folded_9 : decode cX8_folded 9 = .ok (.isub, 1) := by decide +kernel
theorem dX8_folded_10 : decode cX8_folded 10 = .ok (.goto 6, 3) := by decide +kernel
theorem dX8_folded_13 : decode cX8_folded 13 = .ok (.iconst 2, 1) := by decide +kernel
theorem dX8_folded_14 : decode cX8_folded 14 = .ok (.iload_n 0, 1) := by decide +kernel
theorem dX8_folded_15 : decode cX8_folded 15 = .ok (.imul, 1) := by decide +kernel
theorem dX8_folded_16 : decode cX8_folded 16 = .ok (.ireturn, 1) := by decide +kernel
theorem dX8_lengthOf_0 : decode cX8_lengthOf 0 = .ok (.iload_n 1, 1) := by decide +kernel
theorem dX8_lengthOf_1 : decode cX8_lengthOf 1 = .ok (.iload_n 0, 1) := by decide +kernel
theorem dX8_lengthOf_2 : decode cX8_lengthOf 2 = .ok (.ishr, 1) := by decide +kernel
theorem dX8_lengthOf_3 : decode cX8_lengthOf 3 = .ok (.iconst 1, 1) := by decide +kernel
theorem dX8_lengthOf_4 : decode cX8_lengthOf 4 = .ok (.iadd, 1) := by decide +kernel
theorem dX8_lengthOf_5 : decode cX8_lengthOf 5 = .ok (.iload_n 0, 1) := by decide +kernel
theorem dX8_lengthOf_6 : decode cX8_lengthOf 6 = .ok (.iadd, 1) := by decide +kernel
theorem dX8_lengthOf_7 : decode cX8_lengthOf 7 = .ok (.ireturn, 1) := by decide +kernel
theorem dX8_firstOf_0 : decode cX8_firstOf 0 = .ok (.iload_n 1, 1) := by decide +kernel
theorem dX8_firstOf_1 : decode cX8_firstOf 1 = .ok (.aload_n 0, 1) := by decide +kernel
theorem dX8_firstOf_2 : decode cX8_firstOf 2 = .ok (.getfield 61, 3) := by decide +kernel
theorem dX8_firstOf_5 : decode cX8_firstOf 5 = .ok (.imul, 1) := by decide +kernel
theorem dX8_firstOf_6 : decode cX8_firstOf 6 = .ok (.aload_n 0, 1) := by decide +kernel
theorem dX8_firstOf_7 : decode cX8_firstOf 7 = .ok (.getfield 64, 3) := by decide +kernel
theorem dX8_firstOf_10 : decode cX8_firstOf 10 = .ok (.imul, 1) := by decide +kernel
theorem dX8_firstOf_11 : decode cX8_firstOf 11 = .ok (.iload_n 2, 1) := by decide +kernel
theorem dX8_firstOf_12 : decode cX8_firstOf 12 = .ok (.iadd, 1) := by decide +kernel
theorem dX8_firstOf_13 : decode cX8_firstOf 13 = .ok (.ireturn, 1) := by decide +kernel
theorem dX8_sizeOf_0 : decode cX8_sizeOf 0 = .ok (.aload_n 0, 1) := by decide +kernel
theorem dX8_sizeOf_1 : decode cX8_sizeOf 1 = .ok (.getfield 67, 3) := by decide +kernel
theorem dX8_sizeOf_4 : decode cX8_sizeOf 4 = .ok (.iload_n 1, 1) := by decide +kernel
theorem dX8_sizeOf_5 : decode cX8_sizeOf 5 = .ok (.aload_n 0, 1) := by decide +kernel
theorem dX8_sizeOf_6 : decode cX8_sizeOf 6 = .ok (.getfield 61, 3) := by decide +kernel
theorem dX8_sizeOf_9 : decode cX8_sizeOf 9 = .ok (.imul, 1) := by decide +kernel
theorem dX8_sizeOf_10 : decode cX8_sizeOf 10 = .ok (.isub, 1) := by decide +kernel
theorem dX8_sizeOf_11 : decode cX8_sizeOf 11 = .ok (.istore_n 2, 1) := by decide +kernel
theorem dX8_sizeOf_12 : decode cX8_sizeOf 12 = .ok (.iload_n 2, 1) := by decide +kernel
theorem dX8_sizeOf_13 : decode cX8_sizeOf 13 = .ok (.aload_n 0, 1) := by decide +kernel
theorem dX8_sizeOf_14 : decode cX8_sizeOf 14 = .ok (.getfield 61, 3) := by decide +kernel
theorem dX8_sizeOf_17 : decode cX8_sizeOf 17 = .ok (.if_icmp .ge 7, 3) := by decide +kernel
theorem dX8_sizeOf_20 : decode cX8_sizeOf 20 = .ok (.iload_n 2, 1) := by decide +kernel
theorem dX8_sizeOf_21 : decode cX8_sizeOf 21 = .ok (.goto 7, 3) := by decide +kernel
theorem dX8_sizeOf_24 : decode cX8_sizeOf 24 = .ok (.aload_n 0, 1) := by decide +kernel
theorem dX8_sizeOf_25 : decode cX8_sizeOf 25 = .ok (.getfield 61, 3) := by decide +kernel
theorem dX8_sizeOf_28 : decode cX8_sizeOf 28 = .ok (.ireturn, 1) := by decide +kernel
theorem dX8_costOf_0 : decode cX8_costOf 0 = .ok (.iconst 2, 1) := by decide +kernel
theorem dX8_costOf_1 : decode cX8_costOf 1 = .ok (.iload_n 3, 1) := by decide +kernel
theorem dX8_costOf_2 : decode cX8_costOf 2 = .ok (.invokestatic 70, 3) := by decide +kernel
theorem dX8_costOf_5 : decode cX8_costOf 5 = .ok (.iconst 3, 1) := by decide +kernel
theorem dX8_costOf_6 : decode cX8_costOf 6 = .ok (.iload 4, 2) := by decide +kernel
theorem dX8_costOf_8 : decode cX8_costOf 8 = .ok (.invokestatic 70, 3) := by decide +kernel
theorem dX8_costOf_11 : decode cX8_costOf 11 = .ok (.iadd, 1) := by decide +kernel
theorem dX8_costOf_12 : decode cX8_costOf 12 = .ok (.istore 6, 2) := by decide +kernel
theorem dX8_costOf_14 : decode cX8_costOf 14 = .ok (.iconst 0, 1) := by decide +kernel
theorem dX8_costOf_15 : decode cX8_costOf 15 = .ok (.istore 7, 2) := by decide +kernel
theorem dX8_costOf_17 : decode cX8_costOf 17 = .ok (.iload 7, 2) := by decide +kernel
theorem dX8_costOf_19 : decode cX8_costOf 19 = .ok (.aload_n 0, 1) := by decide +kernel
theorem dX8_costOf_20 : decode cX8_costOf 20 = .ok (.iload_n 1, 1) := by decide +kernel
theorem dX8_costOf_21 : decode cX8_costOf 21 = .ok (.invokevirtual 74, 3) := by decide +kernel
theorem dX8_costOf_24 : decode cX8_costOf 24 = .ok (.if_icmp .ge 62, 3) := by decide +kernel
theorem dX8_costOf_27 : decode cX8_costOf 27 = .ok (.aload_n 0, 1) := by decide +kernel
theorem dX8_costOf_28 : decode cX8_costOf 28 = .ok (.iload_n 1, 1) := by decide +kernel
theorem dX8_costOf_29 : decode cX8_costOf 29 = .ok (.iload_n 2, 1) := by decide +kernel
theorem dX8_costOf_30 : decode cX8_costOf 30 = .ok (.invokevirtual 78, 3) := by decide +kernel
theorem dX8_costOf_33 : decode cX8_costOf 33 = .ok (.iload 7, 2) := by decide +kernel
theorem dX8_costOf_35 : decode cX8_costOf 35 = .ok (.aload_n 0, 1) := by decide +kernel
theorem dX8_costOf_36 : decode cX8_costOf 36 = .ok (.getfield 64, 3) := by decide +kernel
theorem dX8_costOf_39 : decode cX8_costOf 39 = .ok (.imul, 1) := by decide +kernel
theorem dX8_costOf_40 : decode cX8_costOf 40 = .ok (.iadd, 1) := by decide +kernel
theorem dX8_costOf_41 : decode cX8_costOf 41 = .ok (.istore 8, 2) := by decide +kernel
theorem dX8_costOf_43 : decode cX8_costOf 43 = .ok (.iload 6, 2) := by decide +kernel
theorem dX8_costOf_45 : decode cX8_costOf 45 = .ok (.iload 4, 2) := by decide +kernel
theorem dX8_costOf_47 : decode cX8_costOf 47 = .ok (.aload_n 0, 1) := by decide +kernel
theorem dX8_costOf_48 : decode cX8_costOf 48 = .ok (.getfield 28, 3) := by decide +kernel
theorem dX8_costOf_51 : decode cX8_costOf 51 = .ok (.iload 8, 2) := by decide +kernel
theorem dX8_costOf_53 : decode cX8_costOf 53 = .ok (.iaload, 1) := by decide +kernel
theorem dX8_costOf_54 : decode cX8_costOf 54 = .ok (.iload_n 3, 1) := by decide +kernel
theorem dX8_costOf_55 : decode cX8_costOf 55 = .ok (.aload_n 0, 1) := by decide +kernel
theorem dX8_costOf_56 : decode cX8_costOf 56 = .ok (.getfield 28, 3) := by decide +kernel
theorem dX8_costOf_59 : decode cX8_costOf 59 = .ok (.iload 8, 2) := by decide +kernel
theorem dX8_costOf_61 : decode cX8_costOf 61 = .ok (.aload_n 0, 1) := by decide +kernel
theorem dX8_costOf_62 : decode cX8_costOf 62 = .ok (.getfield 64, 3) := by decide +kernel
theorem dX8_costOf_65 : decode cX8_costOf 65 = .ok (.iload 5, 2) := by decide +kernel
theorem dX8_costOf_67 : decode cX8_costOf 67 = .ok (.invokestatic 81, 3) := by decide +kernel
theorem dX8_costOf_70 : decode cX8_costOf 70 = .ok (.isub, 1) := by decide +kernel
theorem dX8_costOf_71 : decode cX8_costOf 71 = .ok (.invokestatic 85, 3) := by decide +kernel
theorem dX8_costOf_74 : decode cX8_costOf 74 = .ok (.invokestatic 70, 3) := by decide +kernel
theorem dX8_costOf_77 : decode cX8_costOf 77 = .ok (.iadd, 1) := by decide +kernel
theorem dX8_costOf_78 : decode cX8_costOf 78 = .ok (.istore 6, 2) := by decide +kernel
theorem dX8_costOf_80 : decode cX8_costOf 80 = .ok (.iinc 7 1, 3) := by decide +kernel
theorem dX8_costOf_83 : decode cX8_costOf 83 = .ok (.goto (-66), 3) := by decide +kernel
theorem dX8_costOf_86 : decode cX8_costOf 86 = .ok (.iload 6, 2) := by decide +kernel
theorem dX8_costOf_88 : decode cX8_costOf 88 = .ok (.ireturn, 1) := by decide +kernel
theorem dX8_isMean_0 : decode cX8_isMean 0 = .ok (.iconst 1, 1) := by decide +kernel
theorem dX8_isMean_1 : decode cX8_isMean 1 = .ok (.istore 4, 2) := by decide +kernel
theorem dX8_isMean_3 : decode cX8_isMean 3 = .ok (.iconst 0, 1) := by decide +kernel
theorem dX8_isMean_4 : decode cX8_isMean 4 = .ok (.istore 5, 2) := by decide +kernel
theorem dX8_isMean_6 : decode cX8_isMean 6 = .ok (.iload 5, 2) := by decide +kernel
theorem dX8_isMean_8 : decode cX8_isMean 8 = .ok (.aload_n 0, 1) := by decide +kernel
theorem dX8_isMean_9 : decode cX8_isMean 9 = .ok (.iload_n 1, 1) := by decide +kernel
theorem dX8_isMean_10 : decode cX8_isMean 10 = .ok (.invokevirtual 74, 3) := by decide +kernel
theorem dX8_isMean_13 : decode cX8_isMean 13 = .ok (.if_icmp .ge 44, 3) := by decide +kernel
theorem dX8_isMean_16 : decode cX8_isMean 16 = .ok (.iload 4, 2) := by decide +kernel
theorem dX8_isMean_18 : decode cX8_isMean 18 = .ok (.ifCond .eq 30, 3) := by decide +kernel
theorem dX8_isMean_21 : decode cX8_isMean 21 = .ok (.aload_n 0, 1) := by decide +kernel
theorem dX8_isMean_22 : decode cX8_isMean 22 = .ok (.getfield 28, 3) := by decide +kernel
theorem dX8_isMean_25 : decode cX8_isMean 25 = .ok (.aload_n 0, 1) := by decide +kernel
theorem dX8_isMean_26 : decode cX8_isMean 26 = .ok (.iload_n 1, 1) := by decide +kernel
theorem dX8_isMean_27 : decode cX8_isMean 27 = .ok (.iload_n 2, 1) := by decide +kernel
theorem dX8_isMean_28 : decode cX8_isMean 28 = .ok (.invokevirtual 78, 3) := by decide +kernel
theorem dX8_isMean_31 : decode cX8_isMean 31 = .ok (.iload 5, 2) := by decide +kernel
theorem dX8_isMean_33 : decode cX8_isMean 33 = .ok (.aload_n 0, 1) := by decide +kernel
theorem dX8_isMean_34 : decode cX8_isMean 34 = .ok (.getfield 64, 3) := by decide +kernel
theorem dX8_isMean_37 : decode cX8_isMean 37 = .ok (.imul, 1) := by decide +kernel
theorem dX8_isMean_38 : decode cX8_isMean 38 = .ok (.iadd, 1) := by decide +kernel
theorem dX8_isMean_39 : decode cX8_isMean 39 = .ok (.iaload, 1) := by decide +kernel
theorem dX8_isMean_40 : decode cX8_isMean 40 = .ok (.iload_n 3, 1) := by decide +kernel
theorem dX8_isMean_41 : decode cX8_isMean 41 = .ok (.if_icmp .ne 7, 3) := by decide +kernel
theorem dX8_isMean_44 : decode cX8_isMean 44 = .ok (.iconst 1, 1) := by decide +kernel
theorem dX8_isMean_45 : decode cX8_isMean 45 = .ok (.goto 4, 3) := by decide +kernel
theorem dX8_isMean_48 : decode cX8_isMean 48 = .ok (.iconst 0, 1) := by decide +kernel
theorem dX8_isMean_49 : decode cX8_isMean 49 = .ok (.istore 4, 2) := by decide +kernel
theorem dX8_isMean_51 : decode cX8_isMean 51 = .ok (.iinc 5 1, 3) := by decide +kernel
theorem dX8_isMean_54 : decode cX8_isMean 54 = .ok (.goto (-48), 3) := by decide +kernel
theorem dX8_isMean_57 : decode cX8_isMean 57 = .ok (.iload 4, 2) := by decide +kernel
theorem dX8_isMean_59 : decode cX8_isMean 59 = .ok (.ireturn, 1) := by decide +kernel
theorem dX8_writeBlock_0 : decode cX8_writeBlock 0 = .ok (.aload_n 0, 1) := by decide +kernel
theorem dX8_writeBlock_1 : decode cX8_writeBlock 1 = .ok (.iload_n 2, 1) := by decide +kernel
theorem dX8_writeBlock_2 : decode cX8_writeBlock 2 = .ok (.invokevirtual 88, 3) := by decide +kernel
theorem dX8_writeBlock_5 : decode cX8_writeBlock 5 = .ok (.istore_n 3, 1) := by decide +kernel
theorem dX8_writeBlock_6 : decode cX8_writeBlock 6 = .ok (.iconst 4, 1) := by decide +kernel
theorem dX8_writeBlock_7 : decode cX8_writeBlock 7 = .ok (.istore 4, 2) := by decide +kernel
theorem dX8_writeBlock_9 : decode cX8_writeBlock 9 = .ok (.iconst (-1), 1) := by decide +kernel
theorem dX8_writeBlock_10 : decode cX8_writeBlock 10 = .ok (.istore 5, 2) := by decide +kernel
theorem dX8_writeBlock_12 : decode cX8_writeBlock 12 = .ok (.iconst 0, 1) := by decide +kernel
theorem dX8_writeBlock_13 : decode cX8_writeBlock 13 = .ok (.istore 6, 2) := by decide +kernel
theorem dX8_writeBlock_15 : decode cX8_writeBlock 15 = .ok (.aload_n 0, 1) := by decide +kernel
theorem dX8_writeBlock_16 : decode cX8_writeBlock 16 = .ok (.iload_n 1, 1) := by decide +kernel
theorem dX8_writeBlock_17 : decode cX8_writeBlock 17 = .ok (.iload_n 2, 1) := by decide +kernel
theorem dX8_writeBlock_18 : decode cX8_writeBlock 18 = .ok (.iload_n 3, 1) := by decide +kernel
theorem dX8_writeBlock_19 : decode cX8_writeBlock 19 = .ok (.invokevirtual 91, 3) := by decide +kernel
theorem dX8_writeBlock_22 : decode cX8_writeBlock 22 = .ok (.ifCond .ne 71, 3) := by decide +kernel
theorem dX8_writeBlock_25 : decode cX8_writeBlock 25 = .ok (.iconst 0, 1) := by decide +kernel
theorem dX8_writeBlock_26 : decode cX8_writeBlock 26 = .ok (.istore 7, 2) := by decide +kernel
theorem dX8_writeBlock_28 : decode cX8_writeBlock 28 = .ok (.iload 7, 2) := by decide +kernel
theorem dX8_writeBlock_30 : decode cX8_writeBlock 30 = .ok (.iconst 4, 1) := by decide +kernel
theorem dX8_writeBlock_31 : decode cX8_writeBlock 31 = .ok (.if_icmp .ge 62, 3) := by decide +kernel
theorem dX8_writeBlock_34 : decode cX8_writeBlock 34 = .ok (.iconst 0, 1) := by decide +kernel
theorem dX8_writeBlock_35 : decode cX8_writeBlock 35 = .ok (.istore 8, 2) := by decide +kernel
theorem dX8_writeBlock_37 : decode cX8_writeBlock 37 = .ok (.iload 8, 2) := by decide +kernel
theorem dX8_writeBlock_39 : decode cX8_writeBlock 39 = .ok (.bipush 16, 2) := by decide +kernel
theorem dX8_writeBlock_41 : decode cX8_writeBlock 41 = .ok (.if_icmp .ge 46, 3) := by decide +kernel
theorem dX8_writeBlock_44 : decode cX8_writeBlock 44 = .ok (.aload_n 0, 1) := by decide +kernel
theorem dX8_writeBlock_45 : decode cX8_writeBlock 45 = .ok (.iload_n 1, 1) := by decide +kernel
theorem dX8_writeBlock_46 : decode cX8_writeBlock 46 = .ok (.iload_n 2, 1) := by decide +kernel
theorem dX8_writeBlock_47 : decode cX8_writeBlock 47 = .ok (.iload 7, 2) := by decide +kernel
theorem dX8_writeBlock_49 : decode cX8_writeBlock 49 = .ok (.iload 8, 2) := by decide +kernel
theorem dX8_writeBlock_51 : decode cX8_writeBlock 51 = .ok (.iload_n 3, 1) := by decide +kernel
theorem dX8_writeBlock_52 : decode cX8_writeBlock 52 = .ok (.invokevirtual 95, 3) := by decide +kernel
theorem dX8_writeBlock_55 : decode cX8_writeBlock 55 = .ok (.istore 9, 2) := by decide +kernel
theorem dX8_writeBlock_57 : decode cX8_writeBlock 57 = .ok (.iload 5, 2) := by decide +kernel
theorem dX8_writeBlock_59 : decode cX8_writeBlock 59 = .ok (.ifCond .lt 10, 3) := by decide +kernel
theorem dX8_writeBlock_62 : decode cX8_writeBlock 62 = .ok (.iload 9, 2) := by decide +kernel
theorem dX8_writeBlock_64 : decode cX8_writeBlock 64 = .ok (.iload 6, 2) := by decide +kernel
theorem dX8_writeBlock_66 : decode cX8_writeBlock 66 = .ok (.if_icmp .ge 15, 3) := by decide +kernel
theorem dX8_writeBlock_69 : decode cX8_writeBlock 69 = .ok (.iload 7, 2) := by decide +kernel
theorem dX8_writeBlock_71 : decode cX8_writeBlock 71 = .ok (.istore 4, 2) := by decide +kernel
theorem dX8_writeBlock_73 : decode cX8_writeBlock 73 = .ok (.iload 8, 2) := by decide +kernel
theorem dX8_writeBlock_75 : decode cX8_writeBlock 75 = .ok (.istore 5, 2) := by decide +kernel
theorem dX8_writeBlock_77 : decode cX8_writeBlock 77 = .ok (.iload 9, 2) := by decide +kernel
theorem dX8_writeBlock_79 : decode cX8_writeBlock 79 = .ok (.istore 6, 2) := by decide +kernel
theorem dX8_writeBlock_81 : decode cX8_writeBlock 81 = .ok (.iinc 8 1, 3) := by decide +kernel
theorem dX8_writeBlock_84 : decode cX8_writeBlock 84 = .ok (.goto (-47), 3) := by decide +kernel
theorem dX8_writeBlock_87 : decode cX8_writeBlock 87 = .ok (.iinc 7 1, 3) := by decide +kernel
theorem dX8_writeBlock_90 : decode cX8_writeBlock 90 = .ok (.goto (-62), 3) := by decide +kernel
theorem dX8_writeBlock_93 : decode cX8_writeBlock 93 = .ok (.aload_n 0, 1) := by decide +kernel
theorem dX8_writeBlock_94 : decode cX8_writeBlock 94 = .ok (.getfield 54, 3) := by decide +kernel
theorem dX8_writeBlock_97 : decode cX8_writeBlock 97 = .ok (.istore 7, 2) := by decide +kernel
theorem dX8_writeBlock_99 : decode cX8_writeBlock 99 = .ok (.aload_n 0, 1) := by decide +kernel
theorem dX8_writeBlock_100 : decode cX8_writeBlock 100 = .ok (.iconst 2, 1) := by decide +kernel
theorem dX8_writeBlock_101 : decode cX8_writeBlock 101 = .ok (.iload 4, 2) := by decide +kernel
theorem dX8_writeBlock_103 : decode cX8_writeBlock 103 = .ok (.invokevirtual 99, 3) := by decide +kernel
theorem dX8_writeBlock_106 : decode cX8_writeBlock 106 = .ok (.iload 5, 2) := by decide +kernel
theorem dX8_writeBlock_108 : decode cX8_writeBlock 108 = .ok (.ifCond .lt 10, 3) := by decide +kernel
theorem dX8_writeBlock_111 : decode cX8_writeBlock 111 = .ok (.aload_n 0, 1) := by decide +kernel
theorem dX8_writeBlock_112 : decode cX8_writeBlock 112 = .ok (.iconst 3, 1) := by decide +kernel
theorem dX8_writeBlock_113 : decode cX8_writeBlock 113 = .ok (.iload 5, 2) := by decide +kernel
theorem dX8_writeBlock_115 : decode cX8_writeBlock 115 = .ok (.invokevirtual 99, 3) := by decide +kernel
theorem dX8_writeBlock_118 : decode cX8_writeBlock 118 = .ok (.lconst 0, 1) := by decide +kernel
theorem dX8_writeBlock_119 : decode cX8_writeBlock 119 = .ok (.lstore 8, 2) := by decide +kernel
theorem dX8_writeBlock_121 : decode cX8_writeBlock 121 = .ok (.iconst 0, 1) := by decide +kernel
theorem dX8_writeBlock_122 : decode cX8_writeBlock 122 = .ok (.istore 10, 2) := by decide +kernel
theorem dX8_writeBlock_124 : decode cX8_writeBlock 124 = .ok (.iload 10, 2) := by decide +kernel
theorem dX8_writeBlock_126 : decode cX8_writeBlock 126 = .ok (.aload_n 0, 1) := by decide +kernel
theorem dX8_writeBlock_127 : decode cX8_writeBlock 127 = .ok (.iload_n 1, 1) := by decide +kernel
theorem dX8_writeBlock_128 : decode cX8_writeBlock 128 = .ok (.invokevirtual 74, 3) := by decide +kernel
theorem dX8_writeBlock_131 : decode cX8_writeBlock 131 = .ok (.if_icmp .ge 76, 3) := by decide +kernel
theorem dX8_writeBlock_134 : decode cX8_writeBlock 134 = .ok (.aload_n 0, 1) := by decide +kernel
theorem dX8_writeBlock_135 : decode cX8_writeBlock 135 = .ok (.iload_n 1, 1) := by decide +kernel
theorem dX8_writeBlock_136 : decode cX8_writeBlock 136 = .ok (.iload_n 2, 1) := by decide +kernel
theorem dX8_writeBlock_137 : decode cX8_writeBlock 137 = .ok (.invokevirtual 78, 3) := by decide +kernel
theorem dX8_writeBlock_140 : decode cX8_writeBlock 140 = .ok (.iload 10, 2) := by decide +kernel
theorem dX8_writeBlock_142 : decode cX8_writeBlock 142 = .ok (.aload_n 0, 1) := by decide +kernel
theorem dX8_writeBlock_143 : decode cX8_writeBlock 143 = .ok (.getfield 64, 3) := by decide +kernel
theorem dX8_writeBlock_146 : decode cX8_writeBlock 146 = .ok (.imul, 1) := by decide +kernel
theorem dX8_writeBlock_147 : decode cX8_writeBlock 147 = .ok (.iadd, 1) := by decide +kernel
theorem dX8_writeBlock_148 : decode cX8_writeBlock 148 = .ok (.istore 11, 2) := by decide +kernel
theorem dX8_writeBlock_150 : decode cX8_writeBlock 150 = .ok (.lload 8, 2) := by decide +kernel
theorem dX8_writeBlock_152 : decode cX8_writeBlock 152 = .ok (.aload_n 0, 1) := by decide +kernel
theorem dX8_writeBlock_153 : decode cX8_writeBlock 153 = .ok (.getfield 28, 3) := by decide +kernel
theorem dX8_writeBlock_156 : decode cX8_writeBlock 156 = .ok (.iload 11, 2) := by decide +kernel
theorem dX8_writeBlock_158 : decode cX8_writeBlock 158 = .ok (.iaload, 1) := by decide +kernel
theorem dX8_writeBlock_159 : decode cX8_writeBlock 159 = .ok (.i2l, 1) := by decide +kernel
theorem dX8_writeBlock_160 : decode cX8_writeBlock 160 = .ok (.ladd, 1) := by decide +kernel
theorem dX8_writeBlock_161 : decode cX8_writeBlock 161 = .ok (.lstore 8, 2) := by decide +kernel
theorem dX8_writeBlock_163 : decode cX8_writeBlock 163 = .ok (.iload 5, 2) := by decide +kernel
theorem dX8_writeBlock_165 : decode cX8_writeBlock 165 = .ok (.ifCond .lt 36, 3) := by decide +kernel
theorem dX8_writeBlock_168 : decode cX8_writeBlock 168 = .ok (.aload_n 0, 1) := by decide +kernel
theorem dX8_writeBlock_169 : decode cX8_writeBlock 169 = .ok (.iload 5, 2) := by decide +kernel
theorem dX8_writeBlock_171 : decode cX8_writeBlock 171 = .ok (.aload_n 0, 1) := by decide +kernel
theorem dX8_writeBlock_172 : decode cX8_writeBlock 172 = .ok (.getfield 28, 3) := by decide +kernel
theorem dX8_writeBlock_175 : decode cX8_writeBlock 175 = .ok (.iload 11, 2) := by decide +kernel
theorem dX8_writeBlock_177 : decode cX8_writeBlock 177 = .ok (.iaload, 1) := by decide +kernel
theorem dX8_writeBlock_178 : decode cX8_writeBlock 178 = .ok (.iload 4, 2) := by decide +kernel
theorem dX8_writeBlock_180 : decode cX8_writeBlock 180 = .ok (.aload_n 0, 1) := by decide +kernel
theorem dX8_writeBlock_181 : decode cX8_writeBlock 181 = .ok (.getfield 28, 3) := by decide +kernel
theorem dX8_writeBlock_184 : decode cX8_writeBlock 184 = .ok (.iload 11, 2) := by decide +kernel
theorem dX8_writeBlock_186 : decode cX8_writeBlock 186 = .ok (.aload_n 0, 1) := by decide +kernel
theorem dX8_writeBlock_187 : decode cX8_writeBlock 187 = .ok (.getfield 64, 3) := by decide +kernel
theorem dX8_writeBlock_190 : decode cX8_writeBlock 190 = .ok (.iload_n 3, 1) := by decide +kernel
theorem dX8_writeBlock_191 : decode cX8_writeBlock 191 = .ok (.invokestatic 81, 3) := by decide +kernel
theorem dX8_writeBlock_194 : decode cX8_writeBlock 194 = .ok (.isub, 1) := by decide +kernel
theorem dX8_writeBlock_195 : decode cX8_writeBlock 195 = .ok (.invokestatic 85, 3) := by decide +kernel
theorem dX8_writeBlock_198 : decode cX8_writeBlock 198 = .ok (.invokevirtual 99, 3) := by decide +kernel
theorem dX8_writeBlock_201 : decode cX8_writeBlock 201 = .ok (.iinc 10 1, 3) := by decide +kernel
theorem dX8_writeBlock_204 : decode cX8_writeBlock 204 = .ok (.goto (-80), 3) := by decide +kernel
theorem dX8_writeBlock_207 : decode cX8_writeBlock 207 = .ok (.aload_n 0, 1) := by decide +kernel
theorem dX8_writeBlock_208 : decode cX8_writeBlock 208 = .ok (.iload_n 2, 1) := by decide +kernel
theorem dX8_writeBlock_209 : decode cX8_writeBlock 209 = .ok (.lload 8, 2) := by decide +kernel
theorem dX8_writeBlock_211 : decode cX8_writeBlock 211 = .ok (.aload_n 0, 1) := by decide +kernel
theorem dX8_writeBlock_212 : decode cX8_writeBlock 212 = .ok (.iload_n 1, 1) := by decide +kernel
theorem dX8_writeBlock_213 : decode cX8_writeBlock 213 = .ok (.invokevirtual 74, 3) := by decide +kernel
theorem dX8_writeBlock_216 : decode cX8_writeBlock 216 = .ok (.invokevirtual 103, 3) := by decide +kernel
theorem dX8_writeBlock_219 : decode cX8_writeBlock 219 = .ok (.aload_n 0, 1) := by decide +kernel
theorem dX8_writeBlock_220 : decode cX8_writeBlock 220 = .ok (.getfield 25, 3) := by decide +kernel
theorem dX8_writeBlock_223 : decode cX8_writeBlock 223 = .ok (.iconst 4, 1) := by decide +kernel
theorem dX8_writeBlock_224 : decode cX8_writeBlock 224 = .ok (.aload_n 0, 1) := by decide +kernel
theorem dX8_writeBlock_225 : decode cX8_writeBlock 225 = .ok (.getfield 107, 3) := by decide +kernel
theorem dX8_writeBlock_228 : decode cX8_writeBlock 228 = .ok (.imul, 1) := by decide +kernel
theorem dX8_writeBlock_229 : decode cX8_writeBlock 229 = .ok (.iload_n 2, 1) := by decide +kernel
theorem dX8_writeBlock_230 : decode cX8_writeBlock 230 = .ok (.iastore, 1) := by decide +kernel
theorem dX8_writeBlock_231 : decode cX8_writeBlock 231 = .ok (.aload_n 0, 1) := by decide +kernel
theorem dX8_writeBlock_232 : decode cX8_writeBlock 232 = .ok (.getfield 25, 3) := by decide +kernel
theorem dX8_writeBlock_235 : decode cX8_writeBlock 235 = .ok (.iconst 4, 1) := by decide +kernel
theorem dX8_writeBlock_236 : decode cX8_writeBlock 236 = .ok (.aload_n 0, 1) := by decide +kernel
theorem dX8_writeBlock_237 : decode cX8_writeBlock 237 = .ok (.getfield 107, 3) := by decide +kernel
theorem dX8_writeBlock_240 : decode cX8_writeBlock 240 = .ok (.imul, 1) := by decide +kernel
theorem dX8_writeBlock_241 : decode cX8_writeBlock 241 = .ok (.iconst 1, 1) := by decide +kernel
theorem dX8_writeBlock_242 : decode cX8_writeBlock 242 = .ok (.iadd, 1) := by decide +kernel
theorem dX8_writeBlock_243 : decode cX8_writeBlock 243 = .ok (.iload 4, 2) := by decide +kernel
theorem dX8_writeBlock_245 : decode cX8_writeBlock 245 = .ok (.iastore, 1) := by decide +kernel
theorem dX8_writeBlock_246 : decode cX8_writeBlock 246 = .ok (.aload_n 0, 1) := by decide +kernel
theorem dX8_writeBlock_247 : decode cX8_writeBlock 247 = .ok (.getfield 25, 3) := by decide +kernel
theorem dX8_writeBlock_250 : decode cX8_writeBlock 250 = .ok (.iconst 4, 1) := by decide +kernel
theorem dX8_writeBlock_251 : decode cX8_writeBlock 251 = .ok (.aload_n 0, 1) := by decide +kernel
theorem dX8_writeBlock_252 : decode cX8_writeBlock 252 = .ok (.getfield 107, 3) := by decide +kernel
theorem dX8_writeBlock_255 : decode cX8_writeBlock 255 = .ok (.imul, 1) := by decide +kernel
theorem dX8_writeBlock_256 : decode cX8_writeBlock 256 = .ok (.iconst 2, 1) := by decide +kernel
theorem dX8_writeBlock_257 : decode cX8_writeBlock 257 = .ok (.iadd, 1) := by decide +kernel
theorem dX8_writeBlock_258 : decode cX8_writeBlock 258 = .ok (.iload 5, 2) := by decide +kernel
theorem dX8_writeBlock_260 : decode cX8_writeBlock 260 = .ok (.iastore, 1) := by decide +kernel
theorem dX8_writeBlock_261 : decode cX8_writeBlock 261 = .ok (.aload_n 0, 1) := by decide +kernel
theorem dX8_writeBlock_262 : decode cX8_writeBlock 262 = .ok (.getfield 25, 3) := by decide +kernel
theorem dX8_writeBlock_265 : decode cX8_writeBlock 265 = .ok (.iconst 4, 1) := by decide +kernel
theorem dX8_writeBlock_266 : decode cX8_writeBlock 266 = .ok (.aload_n 0, 1) := by decide +kernel
theorem dX8_writeBlock_267 : decode cX8_writeBlock 267 = .ok (.getfield 107, 3) := by decide +kernel
theorem dX8_writeBlock_270 : decode cX8_writeBlock 270 = .ok (.imul, 1) := by decide +kernel
theorem dX8_writeBlock_271 : decode cX8_writeBlock 271 = .ok (.iconst 3, 1) := by decide +kernel
theorem dX8_writeBlock_272 : decode cX8_writeBlock 272 = .ok (.iadd, 1) := by decide +kernel
theorem dX8_writeBlock_273 : decode cX8_writeBlock 273 = .ok (.aload_n 0, 1) := by decide +kernel
theorem dX8_writeBlock_274 : decode cX8_writeBlock 274 = .ok (.getfield 54, 3) := by decide +kernel
theorem dX8_writeBlock_277 : decode cX8_writeBlock 277 = .ok (.iload 7, 2) := by decide +kernel
theorem dX8_writeBlock_279 : decode cX8_writeBlock 279 = .ok (.isub, 1) := by decide +kernel
theorem dX8_writeBlock_280 : decode cX8_writeBlock 280 = .ok (.iastore, 1) := by decide +kernel
theorem dX8_writeBlock_281 : decode cX8_writeBlock 281 = .ok (.aload_n 0, 1) := by decide +kernel
theorem dX8_writeBlock_282 : decode cX8_writeBlock 282 = .ok (.dup, 1) := by decide +kernel
theorem dX8_writeBlock_283 : decode cX8_writeBlock 283 = .ok (.getfield 107, 3) := by decide +kernel
theorem dX8_writeBlock_286 : decode cX8_writeBlock 286 = .ok (.iconst 1, 1) := by decide +kernel
theorem dX8_writeBlock_287 : decode cX8_writeBlock 287 = .ok (.iadd, 1) := by decide +kernel
theorem dX8_writeBlock_288 : decode cX8_writeBlock 288 = .ok (.putfield 107, 3) := by decide +kernel
theorem dX8_writeBlock_291 : decode cX8_writeBlock 291 = .ok (.return_, 1) := by decide +kernel
theorem dX8_write_0 : decode cX8_write 0 = .ok (.aload_n 0, 1) := by decide +kernel
theorem dX8_write_1 : decode cX8_write 1 = .ok (.aload_n 0, 1) := by decide +kernel
theorem dX8_write_2 : decode cX8_write 2 = .ok (.getfield 7, 3) := by decide +kernel
theorem dX8_write_5 : decode cX8_write 5 = .ok (.putfield 64, 3) := by decide +kernel
theorem dX8_write_8 : decode cX8_write 8 = .ok (.aload_n 0, 1) := by decide +kernel
theorem dX8_write_9 : decode cX8_write 9 = .ok (.aload_n 0, 1) := by decide +kernel
theorem dX8_write_10 : decode cX8_write 10 = .ok (.getfield 13, 3) := by decide +kernel
theorem dX8_write_13 : decode cX8_write 13 = .ok (.putfield 61, 3) := by decide +kernel
theorem dX8_write_16 : decode cX8_write 16 = .ok (.aload_n 0, 1) := by decide +kernel
theorem dX8_write_17 : decode cX8_write 17 = .ok (.aload_n 0, 1) := by decide +kernel
theorem dX8_write_18 : decode cX8_write 18 = .ok (.getfield 43, 3) := by decide +kernel
theorem dX8_write_21 : decode cX8_write 21 = .ok (.aload_n 0, 1) := by decide +kernel
theorem dX8_write_22 : decode cX8_write 22 = .ok (.getfield 7, 3) := by decide +kernel
theorem dX8_write_25 : decode cX8_write 25 = .ok (.idiv, 1) := by decide +kernel
theorem dX8_write_26 : decode cX8_write 26 = .ok (.putfield 67, 3) := by decide +kernel
theorem dX8_write_29 : decode cX8_write 29 = .ok (.iconst 0, 1) := by decide +kernel
theorem dX8_write_30 : decode cX8_write 30 = .ok (.istore_n 1, 1) := by decide +kernel
theorem dX8_write_31 : decode cX8_write 31 = .ok (.iload_n 1, 1) := by decide +kernel
theorem dX8_write_32 : decode cX8_write 32 = .ok (.aload_n 0, 1) := by decide +kernel
theorem dX8_write_33 : decode cX8_write 33 = .ok (.getfield 67, 3) := by decide +kernel
theorem dX8_write_36 : decode cX8_write 36 = .ok (.aload_n 0, 1) := by decide +kernel
theorem dX8_write_37 : decode cX8_write 37 = .ok (.getfield 7, 3) := by decide +kernel
theorem dX8_write_40 : decode cX8_write 40 = .ok (.imul, 1) := by decide +kernel
theorem dX8_write_41 : decode cX8_write 41 = .ok (.if_icmp .ge 21, 3) := by decide +kernel
theorem dX8_write_44 : decode cX8_write 44 = .ok (.aload_n 0, 1) := by decide +kernel
theorem dX8_write_45 : decode cX8_write 45 = .ok (.getfield 28, 3) := by decide +kernel
theorem dX8_write_48 : decode cX8_write 48 = .ok (.iload_n 1, 1) := by decide +kernel
theorem dX8_write_49 : decode cX8_write 49 = .ok (.aload_n 0, 1) := by decide +kernel
theorem dX8_write_50 : decode cX8_write 50 = .ok (.getfield 16, 3) := by decide +kernel
theorem dX8_write_53 : decode cX8_write 53 = .ok (.iload_n 1, 1) := by decide +kernel
theorem dX8_write_54 : decode cX8_write 54 = .ok (.iaload, 1) := by decide +kernel
theorem dX8_write_55 : decode cX8_write 55 = .ok (.iastore, 1) := by decide +kernel
theorem dX8_write_56 : decode cX8_write 56 = .ok (.iinc 1 1, 3) := by decide +kernel
theorem dX8_write_59 : decode cX8_write 59 = .ok (.goto (-28), 3) := by decide +kernel
theorem dX8_write_62 : decode cX8_write 62 = .ok (.aload_n 0, 1) := by decide +kernel
theorem dX8_write_63 : decode cX8_write 63 = .ok (.iconst 0, 1) := by decide +kernel
theorem dX8_write_64 : decode cX8_write 64 = .ok (.putfield 54, 3) := by decide +kernel
theorem dX8_write_67 : decode cX8_write 67 = .ok (.aload_n 0, 1) := by decide +kernel
theorem dX8_write_68 : decode cX8_write 68 = .ok (.iconst 0, 1) := by decide +kernel
theorem dX8_write_69 : decode cX8_write 69 = .ok (.putfield 107, 3) := by decide +kernel
theorem dX8_write_72 : decode cX8_write 72 = .ok (.aload_n 0, 1) := by decide +kernel
theorem dX8_write_73 : decode cX8_write 73 = .ok (.invokevirtual 110, 3) := by decide +kernel
theorem dX8_write_76 : decode cX8_write 76 = .ok (.bipush 7, 2) := by decide +kernel
theorem dX8_write_78 : decode cX8_write 78 = .ok (.istore_n 1, 1) := by decide +kernel
theorem dX8_write_79 : decode cX8_write 79 = .ok (.iload_n 1, 1) := by decide +kernel
theorem dX8_write_80 : decode cX8_write 80 = .ok (.ifCond .lt 19, 3) := by decide +kernel
theorem dX8_write_83 : decode cX8_write 83 = .ok (.aload_n 0, 1) := by decide +kernel
theorem dX8_write_84 : decode cX8_write 84 = .ok (.bipush 83, 2) := by decide +kernel
theorem dX8_write_86 : decode cX8_write 86 = .ok (.iload_n 1, 1) := by decide +kernel
theorem dX8_write_87 : decode cX8_write 87 = .ok (.ishr, 1) := by decide +kernel
theorem dX8_write_88 : decode cX8_write 88 = .ok (.iconst 1, 1) := by decide +kernel
theorem dX8_write_89 : decode cX8_write 89 = .ok (.iand, 1) := by decide +kernel
theorem dX8_write_90 : decode cX8_write 90 = .ok (.invokevirtual 57, 3) := by decide +kernel
theorem dX8_write_93 : decode cX8_write 93 = .ok (.iinc 1 (-1), 3) := by decide +kernel
theorem dX8_write_96 : decode cX8_write 96 = .ok (.goto (-17), 3) := by decide +kernel
theorem dX8_write_99 : decode cX8_write 99 = .ok (.bipush 7, 2) := by decide +kernel
theorem dX8_write_101 : decode cX8_write 101 = .ok (.istore_n 1, 1) := by decide +kernel
theorem dX8_write_102 : decode cX8_write 102 = .ok (.iload_n 1, 1) := by decide +kernel
theorem dX8_write_103 : decode cX8_write 103 = .ok (.ifCond .lt 19, 3) := by decide +kernel
theorem dX8_write_106 : decode cX8_write 106 = .ok (.aload_n 0, 1) := by decide +kernel
theorem dX8_write_107 : decode cX8_write 107 = .ok (.bipush 66, 2) := by decide +kernel
theorem dX8_write_109 : decode cX8_write 109 = .ok (.iload_n 1, 1) := by decide +kernel
theorem dX8_write_110 : decode cX8_write 110 = .ok (.ishr, 1) := by decide +kernel
theorem dX8_write_111 : decode cX8_write 111 = .ok (.iconst 1, 1) := by decide +kernel
theorem dX8_write_112 : decode cX8_write 112 = .ok (.iand, 1) := by decide +kernel
theorem dX8_write_113 : decode cX8_write 113 = .ok (.invokevirtual 57, 3) := by decide +kernel
theorem dX8_write_116 : decode cX8_write 116 = .ok (.iinc 1 (-1), 3) := by decide +kernel
theorem dX8_write_119 : decode cX8_write 119 = .ok (.goto (-17), 3) := by decide +kernel
theorem dX8_write_122 : decode cX8_write 122 = .ok (.aload_n 0, 1) := by decide +kernel
theorem dX8_write_123 : decode cX8_write 123 = .ok (.iconst 2, 1) := by decide +kernel
theorem dX8_write_124 : decode cX8_write 124 = .ok (.aload_n 0, 1) := by decide +kernel
theorem dX8_write_125 : decode cX8_write 125 = .ok (.getfield 64, 3) := by decide +kernel
theorem dX8_write_128 : decode cX8_write 128 = .ok (.invokevirtual 99, 3) := by decide +kernel
theorem dX8_write_131 : decode cX8_write 131 = .ok (.aload_n 0, 1) := by decide +kernel
theorem dX8_write_132 : decode cX8_write 132 = .ok (.iconst 4, 1) := by decide +kernel
theorem dX8_write_133 : decode cX8_write 133 = .ok (.aload_n 0, 1) := by decide +kernel
theorem dX8_write_134 : decode cX8_write 134 = .ok (.getfield 61, 3) := by decide +kernel
theorem dX8_write_137 : decode cX8_write 137 = .ok (.invokevirtual 99, 3) := by decide +kernel
theorem dX8_write_140 : decode cX8_write 140 = .ok (.aload_n 0, 1) := by decide +kernel
theorem dX8_write_141 : decode cX8_write 141 = .ok (.bipush 6, 2) := by decide +kernel
theorem dX8_write_143 : decode cX8_write 143 = .ok (.aload_n 0, 1) := by decide +kernel
theorem dX8_write_144 : decode cX8_write 144 = .ok (.getfield 67, 3) := by decide +kernel
theorem dX8_write_147 : decode cX8_write 147 = .ok (.invokevirtual 99, 3) := by decide +kernel
theorem dX8_write_150 : decode cX8_write 150 = .ok (.iconst 0, 1) := by decide +kernel
theorem dX8_write_151 : decode cX8_write 151 = .ok (.istore_n 1, 1) := by decide +kernel
theorem dX8_write_152 : decode cX8_write 152 = .ok (.iload_n 1, 1) := by decide +kernel
theorem dX8_write_153 : decode cX8_write 153 = .ok (.aload_n 0, 1) := by decide +kernel
theorem dX8_write_154 : decode cX8_write 154 = .ok (.getfield 61, 3) := by decide +kernel
theorem dX8_write_157 : decode cX8_write 157 = .ok (.imul, 1) := by decide +kernel
theorem dX8_write_158 : decode cX8_write 158 = .ok (.aload_n 0, 1) := by decide +kernel
theorem dX8_write_159 : decode cX8_write 159 = .ok (.getfield 67, 3) := by decide +kernel
theorem dX8_write_162 : decode cX8_write 162 = .ok (.if_icmp .ge 31, 3) := by decide +kernel
theorem dX8_write_165 : decode cX8_write 165 = .ok (.iconst 0, 1) := by decide +kernel
theorem dX8_write_166 : decode cX8_write 166 = .ok (.istore_n 2, 1) := by decide +kernel
theorem dX8_write_167 : decode cX8_write 167 = .ok (.iload_n 2, 1) := by decide +kernel
theorem dX8_write_168 : decode cX8_write 168 = .ok (.aload_n 0, 1) := by decide +kernel
theorem dX8_write_169 : decode cX8_write 169 = .ok (.getfield 64, 3) := by decide +kernel
theorem dX8_write_172 : decode cX8_write 172 = .ok (.if_icmp .ge 15, 3) := by decide +kernel
theorem dX8_write_175 : decode cX8_write 175 = .ok (.aload_n 0, 1) := by decide +kernel
theorem dX8_write_176 : decode cX8_write 176 = .ok (.iload_n 1, 1) := by decide +kernel
theorem dX8_write_177 : decode cX8_write 177 = .ok (.iload_n 2, 1) := by decide +kernel
theorem dX8_write_178 : decode cX8_write 178 = .ok (.invokevirtual 113, 3) := by decide +kernel
theorem dX8_write_181 : decode cX8_write 181 = .ok (.iinc 2 1, 3) := by decide +kernel
theorem dX8_write_184 : decode cX8_write 184 = .ok (.goto (-17), 3) := by decide +kernel
theorem dX8_write_187 : decode cX8_write 187 = .ok (.iinc 1 1, 3) := by decide +kernel
theorem dX8_write_190 : decode cX8_write 190 = .ok (.goto (-38), 3) := by decide +kernel
theorem dX8_write_193 : decode cX8_write 193 = .ok (.aload_n 0, 1) := by decide +kernel
theorem dX8_write_194 : decode cX8_write 194 = .ok (.iconst 2, 1) := by decide +kernel
theorem dX8_write_195 : decode cX8_write 195 = .ok (.iconst 5, 1) := by decide +kernel
theorem dX8_write_196 : decode cX8_write 196 = .ok (.invokevirtual 99, 3) := by decide +kernel
theorem dX8_write_199 : decode cX8_write 199 = .ok (.aload_n 0, 1) := by decide +kernel
theorem dX8_write_200 : decode cX8_write 200 = .ok (.getfield 54, 3) := by decide +kernel
theorem dX8_write_203 : decode cX8_write 203 = .ok (.bipush 8, 2) := by decide +kernel
theorem dX8_write_205 : decode cX8_write 205 = .ok (.irem, 1) := by decide +kernel
theorem dX8_write_206 : decode cX8_write 206 = .ok (.ifCond .eq 11, 3) := by decide +kernel
theorem dX8_write_209 : decode cX8_write 209 = .ok (.aload_n 0, 1) := by decide +kernel
theorem dX8_write_210 : decode cX8_write 210 = .ok (.iconst 0, 1) := by decide +kernel
theorem dX8_write_211 : decode cX8_write 211 = .ok (.invokevirtual 57, 3) := by decide +kernel
theorem dX8_write_214 : decode cX8_write 214 = .ok (.goto (-15), 3) := by decide +kernel
theorem dX8_write_217 : decode cX8_write 217 = .ok (.aload_n 0, 1) := by decide +kernel
theorem dX8_write_218 : decode cX8_write 218 = .ok (.getfield 54, 3) := by decide +kernel
theorem dX8_write_221 : decode cX8_write 221 = .ok (.bipush 8, 2) := by decide +kernel
theorem dX8_write_223 : decode cX8_write 223 = .ok (.idiv, 1) := by decide +kernel
theorem dX8_write_224 : decode cX8_write 224 = .ok (.ireturn, 1) := by decide +kernel
theorem dX8_at_0 : decode cX8_at 0 = .ok (.iload_n 1, 1) := by decide +kernel
theorem dX8_at_1 : decode cX8_at 1 = .ok (.ifCond .lt 14, 3) := by decide +kernel
theorem dX8_at_4 : decode cX8_at 4 = .ok (.iload_n 1, 1) := by decide +kernel
theorem dX8_at_5 : decode cX8_at 5 = .ok (.aload_n 0, 1) := by decide +kernel
theorem dX8_at_6 : decode cX8_at 6 = .ok (.getfield 54, 3) := by decide +kernel
theorem dX8_at_9 : decode cX8_at 9 = .ok (.bipush 8, 2) := by decide +kernel
theorem dX8_at_11 : decode cX8_at 11 = .ok (.idiv, 1) := by decide +kernel
theorem dX8_at_12 : decode cX8_at 12 = .ok (.if_icmp .lt 5, 3) := by decide +kernel
theorem dX8_at_15 : decode cX8_at 15 = .ok (.iconst (-1), 1) := by decide +kernel
theorem dX8_at_16 : decode cX8_at 16 = .ok (.ireturn, 1) := by decide +kernel
theorem dX8_at_17 : decode cX8_at 17 = .ok (.iconst 0, 1) := by decide +kernel
theorem dX8_at_18 : decode cX8_at 18 = .ok (.istore_n 2, 1) := by decide +kernel
theorem dX8_at_19 : decode cX8_at 19 = .ok (.iconst 0, 1) := by decide +kernel
theorem dX8_at_20 : decode cX8_at 20 = .ok (.istore_n 3, 1) := by decide +kernel
theorem dX8_at_21 : decode cX8_at 21 = .ok (.iload_n 3, 1) := by decide +kernel
theorem dX8_at_22 : decode cX8_at 22 = .ok (.bipush 8, 2) := by decide +kernel
theorem dX8_at_24 : decode cX8_at 24 = .ok (.if_icmp .ge 25, 3) := by decide +kernel
theorem dX8_at_27 : decode cX8_at 27 = .ok (.iconst 2, 1) := by decide +kernel
theorem dX8_at_28 : decode cX8_at 28 = .ok (.iload_n 2, 1) := by decide +kernel
theorem dX8_at_29 : decode cX8_at 29 = .ok (.imul, 1) := by decide +kernel
theorem dX8_at_30 : decode cX8_at 30 = .ok (.aload_n 0, 1) := by decide +kernel
theorem dX8_at_31 : decode cX8_at 31 = .ok (.getfield 21, 3) := by decide +kernel
theorem dX8_at_34 : decode cX8_at 34 = .ok (.bipush 8, 2) := by decide +kernel
theorem dX8_at_36 : decode cX8_at 36 = .ok (.iload_n 1, 1) := by decide +kernel
theorem dX8_at_37 : decode cX8_at 37 = .ok (.imul, 1) := by decide +kernel
theorem dX8_at_38 : decode cX8_at 38 = .ok (.iload_n 3, 1) := by decide +kernel
theorem dX8_at_39 : decode cX8_at 39 = .ok (.iadd, 1) := by decide +kernel
theorem dX8_at_40 : decode cX8_at 40 = .ok (.baload, 1) := by decide +kernel
theorem dX8_at_41 : decode cX8_at 41 = .ok (.iadd, 1) := by decide +kernel
theorem dX8_at_42 : decode cX8_at 42 = .ok (.istore_n 2, 1) := by decide +kernel
theorem dX8_at_43 : decode cX8_at 43 = .ok (.iinc 3 1, 3) := by decide +kernel
theorem dX8_at_46 : decode cX8_at 46 = .ok (.goto (-25), 3) := by decide +kernel
theorem dX8_at_49 : decode cX8_at 49 = .ok (.iload_n 2, 1) := by decide +kernel
theorem dX8_at_50 : decode cX8_at 50 = .ok (.ireturn, 1) := by decide +kernel
theorem dX8_block_0 : decode cX8_block 0 = .ok (.iload_n 1, 1) := by decide +kernel
theorem dX8_block_1 : decode cX8_block 1 = .ok (.ifCond .lt 20, 3) := by decide +kernel
theorem dX8_block_4 : decode cX8_block 4 = .ok (.iload_n 1, 1) := by decide +kernel
theorem dX8_block_5 : decode cX8_block 5 = .ok (.aload_n 0, 1) := by decide +kernel
theorem dX8_block_6 : decode cX8_block 6 = .ok (.getfield 107, 3) := by decide +kernel
theorem dX8_block_9 : decode cX8_block 9 = .ok (.if_icmp .ge 12, 3) := by decide +kernel
theorem dX8_block_12 : decode cX8_block 12 = .ok (.iload_n 2, 1) := by decide +kernel
theorem dX8_block_13 : decode cX8_block 13 = .ok (.ifCond .lt 8, 3) := by decide +kernel
theorem dX8_block_16 : decode cX8_block 16 = .ok (.iload_n 2, 1) := by decide +kernel
theorem dX8_block_17 : decode cX8_block 17 = .ok (.iconst 3, 1) := by decide +kernel
theorem dX8_block_18 : decode cX8_block 18 = .ok (.if_icmp .le 7, 3) := by decide +kernel
theorem dX8_block_21 : decode cX8_block 21 = .ok (.iconst (-1), 1) := by decide +kernel
theorem dX8_block_22 : decode cX8_block 22 = .ok (.goto 13, 3) := by decide +kernel
theorem dX8_block_25 : decode cX8_block 25 = .ok (.aload_n 0, 1) := by decide +kernel
theorem dX8_block_26 : decode cX8_block 26 = .ok (.getfield 25, 3) := by decide +kernel
theorem dX8_block_29 : decode cX8_block 29 = .ok (.iconst 4, 1) := by decide +kernel
theorem dX8_block_30 : decode cX8_block 30 = .ok (.iload_n 1, 1) := by decide +kernel
theorem dX8_block_31 : decode cX8_block 31 = .ok (.imul, 1) := by decide +kernel
theorem dX8_block_32 : decode cX8_block 32 = .ok (.iload_n 2, 1) := by decide +kernel
theorem dX8_block_33 : decode cX8_block 33 = .ok (.iadd, 1) := by decide +kernel
theorem dX8_block_34 : decode cX8_block 34 = .ok (.iaload, 1) := by decide +kernel
theorem dX8_block_35 : decode cX8_block 35 = .ok (.ireturn, 1) := by decide +kernel
theorem dX8_cost_0 : decode cX8_cost 0 = .ok (.iload_n 1, 1) := by decide +kernel
theorem dX8_cost_1 : decode cX8_cost 1 = .ok (.ifCond .lt 30, 3) := by decide +kernel
theorem dX8_cost_4 : decode cX8_cost 4 = .ok (.iload_n 1, 1) := by decide +kernel
theorem dX8_cost_5 : decode cX8_cost 5 = .ok (.aload_n 0, 1) := by decide +kernel
theorem dX8_cost_6 : decode cX8_cost 6 = .ok (.getfield 107, 3) := by decide +kernel
theorem dX8_cost_9 : decode cX8_cost 9 = .ok (.if_icmp .ge 22, 3) := by decide +kernel
theorem dX8_cost_12 : decode cX8_cost 12 = .ok (.iload_n 2, 1) := by decide +kernel
theorem dX8_cost_13 : decode cX8_cost 13 = .ok (.ifCond .lt 18, 3) := by decide +kernel
theorem dX8_cost_16 : decode cX8_cost 16 = .ok (.iload_n 2, 1) := by decide +kernel
theorem dX8_cost_17 : decode cX8_cost 17 = .ok (.iconst 3, 1) := by decide +kernel
theorem dX8_cost_18 : decode cX8_cost 18 = .ok (.if_icmp .gt 13, 3) := by decide +kernel
theorem dX8_cost_21 : decode cX8_cost 21 = .ok (.iload_n 3, 1) := by decide +kernel
theorem dX8_cost_22 : decode cX8_cost 22 = .ok (.ifCond .lt 9, 3) := by decide +kernel
theorem dX8_cost_25 : decode cX8_cost 25 = .ok (.iload_n 3, 1) := by decide +kernel
theorem dX8_cost_26 : decode cX8_cost 26 = .ok (.bipush 15, 2) := by decide +kernel
theorem dX8_cost_28 : decode cX8_cost 28 = .ok (.if_icmp .le 5, 3) := by decide +kernel
theorem dX8_cost_31 : decode cX8_cost 31 = .ok (.iconst (-1), 1) := by decide +kernel
theorem dX8_cost_32 : decode cX8_cost 32 = .ok (.ireturn, 1) := by decide +kernel
theorem dX8_cost_33 : decode cX8_cost 33 = .ok (.aload_n 0, 1) := by decide +kernel
theorem dX8_cost_34 : decode cX8_cost 34 = .ok (.invokevirtual 110, 3) := by decide +kernel
theorem dX8_cost_37 : decode cX8_cost 37 = .ok (.iload_n 1, 1) := by decide +kernel
theorem dX8_cost_38 : decode cX8_cost 38 = .ok (.aload_n 0, 1) := by decide +kernel
theorem dX8_cost_39 : decode cX8_cost 39 = .ok (.getfield 64, 3) := by decide +kernel
theorem dX8_cost_42 : decode cX8_cost 42 = .ok (.irem, 1) := by decide +kernel
theorem dX8_cost_43 : decode cX8_cost 43 = .ok (.istore 4, 2) := by decide +kernel
theorem dX8_cost_45 : decode cX8_cost 45 = .ok (.iload_n 1, 1) := by decide +kernel
theorem dX8_cost_46 : decode cX8_cost 46 = .ok (.aload_n 0, 1) := by decide +kernel
theorem dX8_cost_47 : decode cX8_cost 47 = .ok (.getfield 64, 3) := by decide +kernel
theorem dX8_cost_50 : decode cX8_cost 50 = .ok (.idiv, 1) := by decide +kernel
theorem dX8_cost_51 : decode cX8_cost 51 = .ok (.istore 5, 2) := by decide +kernel
theorem dX8_cost_53 : decode cX8_cost 53 = .ok (.iconst 0, 1) := by decide +kernel
theorem dX8_cost_54 : decode cX8_cost 54 = .ok (.istore 6, 2) := by decide +kernel
theorem dX8_cost_56 : decode cX8_cost 56 = .ok (.iload 6, 2) := by decide +kernel
theorem dX8_cost_58 : decode cX8_cost 58 = .ok (.iload 5, 2) := by decide +kernel
theorem dX8_cost_60 : decode cX8_cost 60 = .ok (.if_icmp .ge 73, 3) := by decide +kernel
theorem dX8_cost_63 : decode cX8_cost 63 = .ok (.lconst 0, 1) := by decide +kernel
theorem dX8_cost_64 : decode cX8_cost 64 = .ok (.lstore 7, 2) := by decide +kernel
theorem dX8_cost_66 : decode cX8_cost 66 = .ok (.iconst 0, 1) := by decide +kernel
theorem dX8_cost_67 : decode cX8_cost 67 = .ok (.istore 9, 2) := by decide +kernel
theorem dX8_cost_69 : decode cX8_cost 69 = .ok (.iload 9, 2) := by decide +kernel
theorem dX8_cost_71 : decode cX8_cost 71 = .ok (.aload_n 0, 1) := by decide +kernel
theorem dX8_cost_72 : decode cX8_cost 72 = .ok (.iload 6, 2) := by decide +kernel
theorem dX8_cost_74 : decode cX8_cost 74 = .ok (.invokevirtual 74, 3) := by decide +kernel
theorem dX8_cost_77 : decode cX8_cost 77 = .ok (.if_icmp .ge 36, 3) := by decide +kernel
theorem dX8_cost_80 : decode cX8_cost 80 = .ok (.lload 7, 2) := by decide +kernel
theorem dX8_cost_82 : decode cX8_cost 82 = .ok (.aload_n 0, 1) := by decide +kernel
theorem dX8_cost_83 : decode cX8_cost 83 = .ok (.getfield 28, 3) := by decide +kernel
theorem dX8_cost_86 : decode cX8_cost 86 = .ok (.aload_n 0, 1) := by decide +kernel
theorem dX8_cost_87 : decode cX8_cost 87 = .ok (.iload 6, 2) := by decide +kernel
theorem dX8_cost_89 : decode cX8_cost 89 = .ok (.iload 4, 2) := by decide +kernel
theorem dX8_cost_91 : decode cX8_cost 91 = .ok (.invokevirtual 78, 3) := by decide +kernel
theorem dX8_cost_94 : decode cX8_cost 94 = .ok (.iload 9, 2) := by decide +kernel
theorem dX8_cost_96 : decode cX8_cost 96 = .ok (.aload_n 0, 1) := by decide +kernel
theorem dX8_cost_97 : decode cX8_cost 97 = .ok (.getfield 64, 3) := by decide +kernel
theorem dX8_cost_100 : decode cX8_cost 100 = .ok (.imul, 1) := by decide +kernel
theorem dX8_cost_101 : decode cX8_cost 101 = .ok (.iadd, 1) := by decide +kernel
theorem dX8_cost_102 : decode cX8_cost 102 = .ok (.iaload, 1) := by decide +kernel
theorem dX8_cost_103 : decode cX8_cost 103 = .ok (.i2l, 1) := by decide +kernel
theorem dX8_cost_104 : decode cX8_cost 104 = .ok (.ladd, 1) := by decide +kernel
theorem dX8_cost_105 : decode cX8_cost 105 = .ok (.lstore 7, 2) := by decide +kernel
theorem dX8_cost_107 : decode cX8_cost 107 = .ok (.iinc 9 1, 3) := by decide +kernel
theorem dX8_cost_110 : decode cX8_cost 110 = .ok (.goto (-41), 3) := by decide +kernel
theorem dX8_cost_113 : decode cX8_cost 113 = .ok (.aload_n 0, 1) := by decide +kernel
theorem dX8_cost_114 : decode cX8_cost 114 = .ok (.iload 4, 2) := by decide +kernel
theorem dX8_cost_116 : decode cX8_cost 116 = .ok (.lload 7, 2) := by decide +kernel
theorem dX8_cost_118 : decode cX8_cost 118 = .ok (.aload_n 0, 1) := by decide +kernel
theorem dX8_cost_119 : decode cX8_cost 119 = .ok (.iload 6, 2) := by decide +kernel
theorem dX8_cost_121 : decode cX8_cost 121 = .ok (.invokevirtual 74, 3) := by decide +kernel
theorem dX8_cost_124 : decode cX8_cost 124 = .ok (.invokevirtual 103, 3) := by decide +kernel
theorem dX8_cost_127 : decode cX8_cost 127 = .ok (.iinc 6 1, 3) := by decide +kernel
theorem dX8_cost_130 : decode cX8_cost 130 = .ok (.goto (-74), 3) := by decide +kernel
theorem dX8_cost_133 : decode cX8_cost 133 = .ok (.aload_n 0, 1) := by decide +kernel
theorem dX8_cost_134 : decode cX8_cost 134 = .ok (.iload 5, 2) := by decide +kernel
theorem dX8_cost_136 : decode cX8_cost 136 = .ok (.iload 4, 2) := by decide +kernel
theorem dX8_cost_138 : decode cX8_cost 138 = .ok (.iload_n 2, 1) := by decide +kernel
theorem dX8_cost_139 : decode cX8_cost 139 = .ok (.iload_n 3, 1) := by decide +kernel
theorem dX8_cost_140 : decode cX8_cost 140 = .ok (.aload_n 0, 1) := by decide +kernel
theorem dX8_cost_141 : decode cX8_cost 141 = .ok (.iload 4, 2) := by decide +kernel
theorem dX8_cost_143 : decode cX8_cost 143 = .ok (.invokevirtual 88, 3) := by decide +kernel
theorem dX8_cost_146 : decode cX8_cost 146 = .ok (.invokevirtual 95, 3) := by decide +kernel
theorem dX8_cost_149 : decode cX8_cost 149 = .ok (.ireturn, 1) := by decide +kernel
theorem dX8_feed_0 : decode cX8_feed 0 = .ok (.iload_n 1, 1) := by decide +kernel
theorem dX8_feed_1 : decode cX8_feed 1 = .ok (.ifCond .lt 20, 3) := by decide +kernel
theorem dX8_feed_4 : decode cX8_feed 4 = .ok (.iload_n 1, 1) := by decide +kernel
theorem dX8_feed_5 : decode cX8_feed 5 = .ok (.sipush 255, 3) := by decide +kernel
theorem dX8_feed_8 : decode cX8_feed 8 = .ok (.if_icmp .gt 13, 3) := by decide +kernel
theorem dX8_feed_11 : decode cX8_feed 11 = .ok (.aload_n 0, 1) := by decide +kernel
theorem dX8_feed_12 : decode cX8_feed 12 = .ok (.getfield 116, 3) := by decide +kernel
theorem dX8_feed_15 : decode cX8_feed 15 = .ok (.sipush 3000, 3) := by decide +kernel
theorem dX8_feed_18 : decode cX8_feed 18 = .ok (.if_icmp .ne 5, 3) := by decide +kernel
theorem dX8_feed_21 : decode cX8_feed 21 = .ok (.iconst 0, 1) := by decide +kernel
theorem dX8_feed_22 : decode cX8_feed 22 = .ok (.ireturn, 1) := by decide +kernel
theorem dX8_feed_23 : decode cX8_feed 23 = .ok (.aload_n 0, 1) := by decide +kernel
theorem dX8_feed_24 : decode cX8_feed 24 = .ok (.getfield 31, 3) := by decide +kernel
theorem dX8_feed_27 : decode cX8_feed 27 = .ok (.aload_n 0, 1) := by decide +kernel
theorem dX8_feed_28 : decode cX8_feed 28 = .ok (.getfield 116, 3) := by decide +kernel
theorem dX8_feed_31 : decode cX8_feed 31 = .ok (.iload_n 1, 1) := by decide +kernel
theorem dX8_feed_32 : decode cX8_feed 32 = .ok (.iastore, 1) := by decide +kernel
theorem dX8_feed_33 : decode cX8_feed 33 = .ok (.aload_n 0, 1) := by decide +kernel
theorem dX8_feed_34 : decode cX8_feed 34 = .ok (.dup, 1) := by decide +kernel
theorem dX8_feed_35 : decode cX8_feed 35 = .ok (.getfield 116, 3) := by decide +kernel
theorem dX8_feed_38 : decode cX8_feed 38 = .ok (.iconst 1, 1) := by decide +kernel
theorem dX8_feed_39 : decode cX8_feed 39 = .ok (.iadd, 1) := by decide +kernel
theorem dX8_feed_40 : decode cX8_feed 40 = .ok (.putfield 116, 3) := by decide +kernel
theorem dX8_feed_43 : decode cX8_feed 43 = .ok (.iconst 1, 1) := by decide +kernel
theorem dX8_feed_44 : decode cX8_feed 44 = .ok (.ireturn, 1) := by decide +kernel
theorem dX8_take_0 : decode cX8_take 0 = .ok (.aload_n 0, 1) := by decide +kernel
theorem dX8_take_1 : decode cX8_take 1 = .ok (.getfield 54, 3) := by decide +kernel
theorem dX8_take_4 : decode cX8_take 4 = .ok (.bipush 8, 2) := by decide +kernel
theorem dX8_take_6 : decode cX8_take 6 = .ok (.idiv, 1) := by decide +kernel
theorem dX8_take_7 : decode cX8_take 7 = .ok (.sipush 3000, 3) := by decide +kernel
theorem dX8_take_10 : decode cX8_take 10 = .ok (.if_icmp .ge 13, 3) := by decide +kernel
theorem dX8_take_13 : decode cX8_take 13 = .ok (.aload_n 0, 1) := by decide +kernel
theorem dX8_take_14 : decode cX8_take 14 = .ok (.getfield 54, 3) := by decide +kernel
theorem dX8_take_17 : decode cX8_take 17 = .ok (.bipush 8, 2) := by decide +kernel
theorem dX8_take_19 : decode cX8_take 19 = .ok (.idiv, 1) := by decide +kernel
theorem dX8_take_20 : decode cX8_take 20 = .ok (.goto 6, 3) := by decide +kernel
theorem dX8_take_23 : decode cX8_take 23 = .ok (.sipush 3000, 3) := by decide +kernel
theorem dX8_take_26 : decode cX8_take 26 = .ok (.istore_n 1, 1) := by decide +kernel
