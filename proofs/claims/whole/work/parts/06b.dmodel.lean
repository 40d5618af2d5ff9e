theorem dX10_init_0 : decode cX10_init 0 = .ok (.aload_n 0, 1) := by decide +kernel
theorem dX10_init_1 : decode cX10_init 1 = .ok (.invokespecial 1, 3) := by decide +kernel
theorem dX10_init_4 : decode cX10_init 4 = .ok (.aload_n 0, 1) := by decide +kernel
theorem dX10_init_5 : decode cX10_init 5 = .ok (.bipush 60, 2) := by decide +kernel
theorem dX10_init_7 : decode cX10_init 7 = .ok (.newarray .int, 2) := by decide +kernel
theorem dX10_init_9 : decode cX10_init 9 = .ok (.putfield 7, 3) := by decide +kernel
theorem dX10_init_12 : decode cX10_init 12 = .ok (.aload_n 0, 1) := by decide +kernel
theorem dX10_init_13 : decode cX10_init 13 = .ok (.bipush 60, 2) := by decide +kernel
theorem dX10_init_15 : decode cX10_init 15 = .ok (.newarray .int, 2) := by decide +kernel
theorem dX10_init_17 : decode cX10_init 17 = .ok (.putfield 13, 3) := by decide +kernel
theorem dX10_init_20 : decode cX10_init 20 = .ok (.aload_n 0, 1) := by decide +kernel
theorem dX10_init_21 : decode cX10_init 21 = .ok (.bipush 60, 2) := by decide +kernel
theorem dX10_init_23 : decode cX10_init 23 = .ok (.newarray .long, 2) := by decide +kernel
theorem dX10_init_25 : decode cX10_init 25 = .ok (.putfield 16, 3) := by decide +kernel
theorem dX10_init_28 : decode cX10_init 28 = .ok (.aload_n 0, 1) := by decide +kernel
theorem dX10_init_29 : decode cX10_init 29 = .ok (.bipush 60, 2) := by decide +kernel
theorem dX10_init_31 : decode cX10_init 31 = .ok (.newarray .int, 2) := by decide +kernel
theorem dX10_init_33 : decode cX10_init 33 = .ok (.putfield 20, 3) := by decide +kernel
theorem dX10_init_36 : decode cX10_init 36 = .ok (.aload_n 0, 1) := by decide +kernel
theorem dX10_init_37 : decode cX10_init 37 = .ok (.sipush 18000, 3) := by decide +kernel
theorem dX10_init_40 : decode cX10_init 40 = .ok (.newarray .long, 2) := by decide +kernel
theorem dX10_init_42 : decode cX10_init 42 = .ok (.putfield 23, 3) := by decide +kernel
theorem dX10_init_45 : decode cX10_init 45 = .ok (.aload_n 0, 1) := by decide +kernel
theorem dX10_init_46 : decode cX10_init 46 = .ok (.sipush 300, 3) := by decide +kernel
theorem dX10_init_49 : decode cX10_init 49 = .ok (.newarray .long, 2) := by decide +kernel
theorem dX10_init_51 : decode cX10_init 51 = .ok (.putfield 26, 3) := by decide +kernel
theorem dX10_init_54 : decode cX10_init 54 = .ok (.aload_n 0, 1) := by decide +kernel
theorem dX10_init_55 : decode cX10_init 55 = .ok (.bipush 60, 2) := by decide +kernel
theorem dX10_init_57 : decode cX10_init 57 = .ok (.newarray .long, 2) := by decide +kernel
theorem dX10_init_59 : decode cX10_init 59 = .ok (.putfield 29, 3) := by decide +kernel
theorem dX10_init_62 : decode cX10_init 62 = .ok (.aload_n 0, 1) := by decide +kernel
theorem dX10_init_63 : decode cX10_init 63 = .ok (.iconst (-1), 1) := by decide +kernel
theorem dX10_init_64 : decode cX10_init 64 = .ok (.putfield 32, 3) := by decide +kernel
theorem dX10_init_67 : decode cX10_init 67 = .ok (.aload_n 0, 1) := by decide +kernel
theorem dX10_init_68 : decode cX10_init 68 = .ok (.iconst 5, 1) := by decide +kernel
theorem dX10_init_69 : decode cX10_init 69 = .ok (.newarray .int, 2) := by decide +kernel
theorem dX10_init_71 : decode cX10_init 71 = .ok (.putfield 36, 3) := by decide +kernel
theorem dX10_init_74 : decode cX10_init 74 = .ok (.aload_n 0, 1) := by decide +kernel
theorem dX10_init_75 : decode cX10_init 75 = .ok (.sipush 760, 3) := by decide +kernel
theorem dX10_init_78 : decode cX10_init 78 = .ok (.newarray .long, 2) := by decide +kernel
theorem dX10_init_80 : decode cX10_init 80 = .ok (.putfield 39, 3) := by decide +kernel
theorem dX10_init_83 : decode cX10_init 83 = .ok (.return_, 1) := by decide +kernel
theorem dX10_in_0 : decode cX10_in 0 = .ok (.lload_n 0, 1) := by decide +kernel
theorem dX10_in_1 : decode cX10_in 1 = .ok (.lload_n 2, 1) := by decide +kernel
theorem dX10_in_2 : decode cX10_in 2 = .ok (.lcmp, 1) := by decide +kernel
theorem dX10_in_3 : decode cX10_in 3 = .ok (.ifCond .lt 14, 3) := by decide +kernel
theorem dX10_in_6 : decode cX10_in 6 = .ok (.lload_n 0, 1) := by decide +kernel
theorem dX10_in_7 : decode cX10_in 7 = .ok (.lload 4, 2) := by decide +kernel
theorem dX10_in_9 : decode cX10_in 9 = .ok (.lcmp, 1) := by decide +kernel
theorem dX10_in_10 : decode cX10_in 10 = .ok (.ifCond .gt 7, 3) := by decide +kernel
theorem dX10_in_13 : decode cX10_in 13 = .ok (.iconst 1, 1) := by decide +kernel
theorem dX10_in_14 : decode cX10_in 14 = .ok (.goto 4, 3) := by decide +kernel
theorem dX10_in_17 : decode cX10_in 17 = .ok (.iconst 0, 1) := by decide +kernel
theorem dX10_in_18 : decode cX10_in 18 = .ok (.ireturn, 1) := by decide +kernel
theorem dX10_refuse_0 : decode cX10_refuse 0 = .ok (.aload_n 0, 1) := by decide +kernel
theorem dX10_refuse_1 : decode cX10_refuse 1 = .ok (.iload_n 1, 1) := by decide +kernel
theorem dX10_refuse_2 : decode cX10_refuse 2 = .ok (.putfield 42, 3) := by decide +kernel
theorem dX10_refuse_5 : decode cX10_refuse 5 = .ok (.iload_n 1, 1) := by decide +kernel
theorem dX10_refuse_6 : decode cX10_refuse 6 = .ok (.ireturn, 1) := by decide +kernel
theorem dX10_fine_0 : decode cX10_fine 0 = .ok (.aload_n 0, 1) := by decide +kernel
theorem dX10_fine_1 : decode cX10_fine 1 = .ok (.iconst 0, 1) := by decide +kernel
theorem dX10_fine_2 : decode cX10_fine 2 = .ok (.putfield 42, 3) := by decide +kernel
theorem dX10_fine_5 : decode cX10_fine 5 = .ok (.iload_n 1, 1) := by decide +kernel
theorem dX10_fine_6 : decode cX10_fine 6 = .ok (.ireturn, 1) := by decide +kernel
theorem dX10_fineLong_0 : decode cX10_fineLong 0 = .ok (.aload_n 0, 1) := by decide +kernel
theorem dX10_fineLong_1 : decode cX10_fineLong 1 = .ok (.iconst 0, 1) := by decide +kernel
theorem dX10_fineLong_2 : decode cX10_fineLong 2 = .ok (.putfield 42, 3) := by decide +kernel
theorem dX10_fineLong_5 : decode cX10_fineLong 5 = .ok (.lload_n 1, 1) := by decide +kernel
theorem dX10_fineLong_6 : decode cX10_fineLong 6 = .ok (.lreturn, 1) := by decide +kernel
theorem dX10_none_0 : decode cX10_none 0 = .ok (.aload_n 0, 1) := by decide +kernel
theorem dX10_none_1 : decode cX10_none 1 = .ok (.iload_n 1, 1) := by decide +kernel
theorem dX10_none_2 : decode cX10_none 2 = .ok (.putfield 42, 3) := by decide +kernel
theorem dX10_none_5 : decode cX10_none 5 = .ok (.ldc2_w 45, 3) := by decide +kernel
theorem dX10_none_8 : decode cX10_none 8 = .ok (.lreturn, 1) := by decide +kernel
theorem dX10_isCurve_0 : decode cX10_isCurve 0 = .ok (.iload_n 1, 1) := by decide +kernel
theorem dX10_isCurve_1 : decode cX10_isCurve 1 = .ok (.i2l, 1) := by decide +kernel
theorem dX10_isCurve_2 : decode cX10_isCurve 2 = .ok (.lconst 0, 1) := by decide +kernel
theorem dX10_isCurve_3 : decode cX10_isCurve 3 = .ok (.aload_n 0, 1) := by decide +kernel
theorem dX10_isCurve_4 : decode cX10_isCurve 4 = .ok (.getfield 47, 3) := by decide +kernel
theorem dX10_isCurve_7 : decode cX10_isCurve 7 = .ok (.iconst 1, 1) := by decide +kernel
theorem dX10_isCurve_8 : decode cX10_isCurve 8 = .ok (.isub, 1) := by decide +kernel
theorem dX10_isCurve_9 : decode cX10_isCurve 9 = .ok (.i2l, 1) := by decide +kernel
theorem dX10_isCurve_10 : decode cX10_isCurve 10 = .ok (.invokestatic 50, 3) := by decide +kernel
theorem dX10_isCurve_13 : decode cX10_isCurve 13 = .ok (.ireturn, 1) := by decide +kernel
theorem dX10_value_0 : decode cX10_value 0 = .ok (.lload_n 2, 1) := by decide +kernel
theorem dX10_value_1 : decode cX10_value 1 = .ok (.aload_n 0, 1) := by decide +kernel
theorem dX10_value_2 : decode cX10_value 2 = .ok (.getfield 7, 3) := by decide +kernel
theorem dX10_value_5 : decode cX10_value 5 = .ok (.iload_n 1, 1) := by decide +kernel
theorem dX10_value_6 : decode cX10_value 6 = .ok (.iaload, 1) := by decide +kernel
theorem dX10_value_7 : decode cX10_value 7 = .ok (.i2l, 1) := by decide +kernel
theorem dX10_value_8 : decode cX10_value 8 = .ok (.lsub, 1) := by decide +kernel
theorem dX10_value_9 : decode cX10_value 9 = .ok (.lstore 4, 2) := by decide +kernel
theorem dX10_value_11 : decode cX10_value 11 = .ok (.lload 4, 2) := by decide +kernel
theorem dX10_value_13 : decode cX10_value 13 = .ok (.aload_n 0, 1) := by decide +kernel
theorem dX10_value_14 : decode cX10_value 14 = .ok (.getfield 13, 3) := by decide +kernel
theorem dX10_value_17 : decode cX10_value 17 = .ok (.iload_n 1, 1) := by decide +kernel
theorem dX10_value_18 : decode cX10_value 18 = .ok (.iaload, 1) := by decide +kernel
theorem dX10_value_19 : decode cX10_value 19 = .ok (.i2l, 1) := by decide +kernel
theorem dX10_value_20 : decode cX10_value 20 = .ok (.lcmp, 1) := by decide +kernel
theorem dX10_value_21 : decode cX10_value 21 = .ok (.ifCond .ge 17, 3) := by decide +kernel
theorem dX10_value_24 : decode cX10_value 24 = .ok (.aload_n 0, 1) := by decide +kernel
theorem dX10_value_25 : decode cX10_value 25 = .ok (.getfield 23, 3) := by decide +kernel
theorem dX10_value_28 : decode cX10_value 28 = .ok (.sipush 300, 3) := by decide +kernel
theorem dX10_value_31 : decode cX10_value 31 = .ok (.iload_n 1, 1) := by decide +kernel
theorem dX10_value_32 : decode cX10_value 32 = .ok (.imul, 1) := by decide +kernel
theorem dX10_value_33 : decode cX10_value 33 = .ok (.lload_n 2, 1) := by decide +kernel
theorem dX10_value_34 : decode cX10_value 34 = .ok (.l2i, 1) := by decide +kernel
theorem dX10_value_35 : decode cX10_value 35 = .ok (.iadd, 1) := by decide +kernel
theorem dX10_value_36 : decode cX10_value 36 = .ok (.laload, 1) := by decide +kernel
theorem dX10_value_37 : decode cX10_value 37 = .ok (.lreturn, 1) := by decide +kernel
theorem dX10_value_38 : decode cX10_value 38 = .ok (.aload_n 0, 1) := by decide +kernel
theorem dX10_value_39 : decode cX10_value 39 = .ok (.getfield 23, 3) := by decide +kernel
theorem dX10_value_42 : decode cX10_value 42 = .ok (.sipush 300, 3) := by decide +kernel
theorem dX10_value_45 : decode cX10_value 45 = .ok (.iload_n 1, 1) := by decide +kernel
theorem dX10_value_46 : decode cX10_value 46 = .ok (.imul, 1) := by decide +kernel
theorem dX10_value_47 : decode cX10_value 47 = .ok (.aload_n 0, 1) := by decide +kernel
theorem dX10_value_48 : decode cX10_value 48 = .ok (.getfield 7, 3) := by decide +kernel
theorem dX10_value_51 : decode cX10_value 51 = .ok (.iload_n 1, 1) := by decide +kernel
theorem dX10_value_52 : decode cX10_value 52 = .ok (.iaload, 1) := by decide +kernel
theorem dX10_value_53 : decode cX10_value 53 = .ok (.iadd, 1) := by decide +kernel
theorem dX10_value_54 : decode cX10_value 54 = .ok (.lload 4, 2) := by decide +kernel
theorem dX10_value_56 : decode cX10_value 56 = .ok (.aload_n 0, 1) := by decide +kernel
theorem dX10_value_57 : decode cX10_value 57 = .ok (.getfield 13, 3) := by decide +kernel
theorem dX10_value_60 : decode cX10_value 60 = .ok (.iload_n 1, 1) := by decide +kernel
theorem dX10_value_61 : decode cX10_value 61 = .ok (.iaload, 1) := by decide +kernel
theorem dX10_value_62 : decode cX10_value 62 = .ok (.i2l, 1) := by decide +kernel
theorem dX10_value_63 : decode cX10_value 63 = .ok (.lrem, 1) := by decide +kernel
theorem dX10_value_64 : decode cX10_value 64 = .ok (.l2i, 1) := by decide +kernel
theorem dX10_value_65 : decode cX10_value 65 = .ok (.iadd, 1) := by decide +kernel
theorem dX10_value_66 : decode cX10_value 66 = .ok (.laload, 1) := by decide +kernel
theorem dX10_value_67 : decode cX10_value 67 = .ok (.lload 4, 2) := by decide +kernel
theorem dX10_value_69 : decode cX10_value 69 = .ok (.aload_n 0, 1) := by decide +kernel
theorem dX10_value_70 : decode cX10_value 70 = .ok (.getfield 13, 3) := by decide +kernel
theorem dX10_value_73 : decode cX10_value 73 = .ok (.iload_n 1, 1) := by decide +kernel
theorem dX10_value_74 : decode cX10_value 74 = .ok (.iaload, 1) := by decide +kernel
theorem dX10_value_75 : decode cX10_value 75 = .ok (.i2l, 1) := by decide +kernel
theorem dX10_value_76 : decode cX10_value 76 = .ok (.ldiv, 1) := by decide +kernel
theorem dX10_value_77 : decode cX10_value 77 = .ok (.aload_n 0, 1) := by decide +kernel
theorem dX10_value_78 : decode cX10_value 78 = .ok (.getfield 16, 3) := by decide +kernel
theorem dX10_value_81 : decode cX10_value 81 = .ok (.iload_n 1, 1) := by decide +kernel
theorem dX10_value_82 : decode cX10_value 82 = .ok (.laload, 1) := by decide +kernel
theorem dX10_value_83 : decode cX10_value 83 = .ok (.lmul, 1) := by decide +kernel
theorem dX10_value_84 : decode cX10_value 84 = .ok (.ladd, 1) := by decide +kernel
theorem dX10_value_85 : decode cX10_value 85 = .ok (.lreturn, 1) := by decide +kernel
theorem dX10_comesRound_0 : decode cX10_comesRound 0 = .ok (.iconst 1, 1) := by decide +kernel
theorem dX10_comesRound_1 : decode cX10_comesRound 1 = .ok (.istore 5, 2) := by decide +kernel
theorem dX10_comesRound_3 : decode cX10_comesRound 3 = .ok (.iload 4, 2) := by decide +kernel
theorem dX10_comesRound_5 : decode cX10_comesRound 5 = .ok (.istore 6, 2) := by decide +kernel
theorem dX10_comesRound_7 : decode cX10_comesRound 7 = .ok (.iload 6, 2) := by decide +kernel
theorem dX10_comesRound_9 : decode cX10_comesRound 9 = .ok (.sipush 640, 3) := by decide +kernel
theorem dX10_comesRound_12 : decode cX10_comesRound 12 = .ok (.if_icmp .ge 43, 3) := by decide +kernel
theorem dX10_comesRound_15 : decode cX10_comesRound 15 = .ok (.iload 5, 2) := by decide +kernel
theorem dX10_comesRound_17 : decode cX10_comesRound 17 = .ok (.ifCond .eq 38, 3) := by decide +kernel
theorem dX10_comesRound_20 : decode cX10_comesRound 20 = .ok (.aload_n 0, 1) := by decide +kernel
theorem dX10_comesRound_21 : decode cX10_comesRound 21 = .ok (.getfield 39, 3) := by decide +kernel
theorem dX10_comesRound_24 : decode cX10_comesRound 24 = .ok (.iload 6, 2) := by decide +kernel
theorem dX10_comesRound_26 : decode cX10_comesRound 26 = .ok (.iload_n 1, 1) := by decide +kernel
theorem dX10_comesRound_27 : decode cX10_comesRound 27 = .ok (.iadd, 1) := by decide +kernel
theorem dX10_comesRound_28 : decode cX10_comesRound 28 = .ok (.laload, 1) := by decide +kernel
theorem dX10_comesRound_29 : decode cX10_comesRound 29 = .ok (.aload_n 0, 1) := by decide +kernel
theorem dX10_comesRound_30 : decode cX10_comesRound 30 = .ok (.getfield 39, 3) := by decide +kernel
theorem dX10_comesRound_33 : decode cX10_comesRound 33 = .ok (.iload 6, 2) := by decide +kernel
theorem dX10_comesRound_35 : decode cX10_comesRound 35 = .ok (.laload, 1) := by decide +kernel
theorem dX10_comesRound_36 : decode cX10_comesRound 36 = .ok (.lload_n 2, 1) := by decide +kernel
theorem dX10_comesRound_37 : decode cX10_comesRound 37 = .ok (.ladd, 1) := by decide +kernel
theorem dX10_comesRound_38 : decode cX10_comesRound 38 = .ok (.lcmp, 1) := by decide +kernel
theorem dX10_comesRound_39 : decode cX10_comesRound 39 = .ok (.ifCond .ne 7, 3) := by decide +kernel
theorem dX10_comesRound_42 : decode cX10_comesRound 42 = .ok (.iconst 1, 1) := by decide +kernel
theorem dX10_comesRound_43 : decode cX10_comesRound 43 = .ok (.goto 4, 3) := by decide +kernel
theorem dX10_comesRound_46 : decode cX10_comesRound 46 = .ok (.iconst 0, 1) := by decide +kernel
theorem dX10_comesRound_47 : decode cX10_comesRound 47 = .ok (.istore 5, 2) := by decide +kernel
theorem dX10_comesRound_49 : decode cX10_comesRound 49 = .ok (.iinc 6 1, 3) := by decide +kernel
theorem dX10_comesRound_52 : decode cX10_comesRound 52 = .ok (.goto (-45), 3) := by decide +kernel
theorem dX10_comesRound_55 : decode cX10_comesRound 55 = .ok (.iload 5, 2) := by decide +kernel
theorem dX10_comesRound_57 : decode cX10_comesRound 57 = .ok (.ireturn, 1) := by decide +kernel
theorem dX10_kindOf_0 : decode cX10_kindOf 0 = .ok (.aload_n 0, 1) := by decide +kernel
theorem dX10_kindOf_1 : decode cX10_kindOf 1 = .ok (.getfield 23, 3) := by decide +kernel
theorem dX10_kindOf_4 : decode cX10_kindOf 4 = .ok (.sipush 300, 3) := by decide +kernel
theorem dX10_kindOf_7 : decode cX10_kindOf 7 = .ok (.iload_n 1, 1) := by decide +kernel
theorem dX10_kindOf_8 : decode cX10_kindOf 8 = .ok (.imul, 1) := by decide +kernel
theorem dX10_kindOf_9 : decode cX10_kindOf 9 = .ok (.laload, 1) := by decide +kernel
theorem dX10_kindOf_10 : decode cX10_kindOf 10 = .ok (.lstore_n 2, 1) := by decide +kernel
theorem dX10_kindOf_11 : decode cX10_kindOf 11 = .ok (.aload_n 0, 1) := by decide +kernel
theorem dX10_kindOf_12 : decode cX10_kindOf 12 = .ok (.getfield 7, 3) := by decide +kernel
theorem dX10_kindOf_15 : decode cX10_kindOf 15 = .ok (.iload_n 1, 1) := by decide +kernel
theorem dX10_kindOf_16 : decode cX10_kindOf 16 = .ok (.iaload, 1) := by decide +kernel
theorem dX10_kindOf_17 : decode cX10_kindOf 17 = .ok (.istore 4, 2) := by decide +kernel
theorem dX10_kindOf_19 : decode cX10_kindOf 19 = .ok (.aload_n 0, 1) := by decide +kernel
theorem dX10_kindOf_20 : decode cX10_kindOf 20 = .ok (.getfield 13, 3) := by decide +kernel
theorem dX10_kindOf_23 : decode cX10_kindOf 23 = .ok (.iload_n 1, 1) := by decide +kernel
theorem dX10_kindOf_24 : decode cX10_kindOf 24 = .ok (.iaload, 1) := by decide +kernel
theorem dX10_kindOf_25 : decode cX10_kindOf 25 = .ok (.istore 5, 2) := by decide +kernel
theorem dX10_kindOf_27 : decode cX10_kindOf 27 = .ok (.aload_n 0, 1) := by decide +kernel
theorem dX10_kindOf_28 : decode cX10_kindOf 28 = .ok (.getfield 16, 3) := by decide +kernel
theorem dX10_kindOf_31 : decode cX10_kindOf 31 = .ok (.iload_n 1, 1) := by decide +kernel
theorem dX10_kindOf_32 : decode cX10_kindOf 32 = .ok (.laload, 1) := by decide +kernel
theorem dX10_kindOf_33 : decode cX10_kindOf 33 = .ok (.lstore 6, 2) := by decide +kernel
theorem dX10_kindOf_35 : decode cX10_kindOf 35 = .ok (.iload 5, 2) := by decide +kernel
theorem dX10_kindOf_37 : decode cX10_kindOf 37 = .ok (.iconst 1, 1) := by decide +kernel
theorem dX10_kindOf_38 : decode cX10_kindOf 38 = .ok (.if_icmp .ne 35, 3) := by decide +kernel
theorem dX10_kindOf_41 : decode cX10_kindOf 41 = .ok (.iload 4, 2) := by decide +kernel
theorem dX10_kindOf_43 : decode cX10_kindOf 43 = .ok (.iconst 1, 1) := by decide +kernel
theorem dX10_kindOf_44 : decode cX10_kindOf 44 = .ok (.if_icmp .ne 29, 3) := by decide +kernel
theorem dX10_kindOf_47 : decode cX10_kindOf 47 = .ok (.lload_n 2, 1) := by decide +kernel
theorem dX10_kindOf_48 : decode cX10_kindOf 48 = .ok (.lconst 0, 1) := by decide +kernel
theorem dX10_kindOf_49 : decode cX10_kindOf 49 = .ok (.lcmp, 1) := by decide +kernel
theorem dX10_kindOf_50 : decode cX10_kindOf 50 = .ok (.ifCond .ne 23, 3) := by decide +kernel
theorem dX10_kindOf_53 : decode cX10_kindOf 53 = .ok (.aload_n 0, 1) := by decide +kernel
theorem dX10_kindOf_54 : decode cX10_kindOf 54 = .ok (.getfield 23, 3) := by decide +kernel
theorem dX10_kindOf_57 : decode cX10_kindOf 57 = .ok (.sipush 300, 3) := by decide +kernel
theorem dX10_kindOf_60 : decode cX10_kindOf 60 = .ok (.iload_n 1, 1) := by decide +kernel
theorem dX10_kindOf_61 : decode cX10_kindOf 61 = .ok (.imul, 1) := by decide +kernel
theorem dX10_kindOf_62 : decode cX10_kindOf 62 = .ok (.iconst 1, 1) := by decide +kernel
theorem dX10_kindOf_63 : decode cX10_kindOf 63 = .ok (.iadd, 1) := by decide +kernel
theorem dX10_kindOf_64 : decode cX10_kindOf 64 = .ok (.laload, 1) := by decide +kernel
theorem dX10_kindOf_65 : decode cX10_kindOf 65 = .ok (.lload 6, 2) := by decide +kernel
theorem dX10_kindOf_67 : decode cX10_kindOf 67 = .ok (.lcmp, 1) := by decide +kernel
theorem dX10_kindOf_68 : decode cX10_kindOf 68 = .ok (.ifCond .le 5, 3) := by decide +kernel
theorem dX10_kindOf_71 : decode cX10_kindOf 71 = .ok (.iconst 1, 1) := by decide +kernel
theorem dX10_kindOf_72 : decode cX10_kindOf 72 = .ok (.ireturn, 1) := by decide +kernel
theorem dX10_kindOf_73 : decode cX10_kindOf 73 = .ok (.iload 5, 2) := by decide +kernel
theorem dX10_kindOf_75 : decode cX10_kindOf 75 = .ok (.iconst 1, 1) := by decide +kernel
theorem dX10_kindOf_76 : decode cX10_kindOf 76 = .ok (.if_icmp .ne 16, 3) := by decide +kernel
theorem dX10_kindOf_79 : decode cX10_kindOf 79 = .ok (.iload 4, 2) := by decide +kernel
theorem dX10_kindOf_81 : decode cX10_kindOf 81 = .ok (.ifCond .ne 11, 3) := by decide +kernel
theorem dX10_kindOf_84 : decode cX10_kindOf 84 = .ok (.lload_n 2, 1) := by decide +kernel
theorem dX10_kindOf_85 : decode cX10_kindOf 85 = .ok (.lconst 0, 1) := by decide +kernel
theorem dX10_kindOf_86 : decode cX10_kindOf 86 = .ok (.lcmp, 1) := by decide +kernel
theorem dX10_kindOf_87 : decode cX10_kindOf 87 = .ok (.ifCond .ne 5, 3) := by decide +kernel
theorem dX10_kindOf_90 : decode cX10_kindOf 90 = .ok (.iconst 2, 1) := by decide +kernel
theorem dX10_kindOf_91 : decode cX10_kindOf 91 = .ok (.ireturn, 1) := by decide +kernel
theorem dX10_kindOf_92 : decode cX10_kindOf 92 = .ok (.iload 5, 2) := by decide +kernel
theorem dX10_kindOf_94 : decode cX10_kindOf 94 = .ok (.iconst 1, 1) := by decide +kernel
theorem dX10_kindOf_95 : decode cX10_kindOf 95 = .ok (.if_icmp .ne 35, 3) := by decide +kernel
theorem dX10_kindOf_98 : decode cX10_kindOf 98 = .ok (.iload 4, 2) := by decide +kernel
theorem dX10_kindOf_100 : decode cX10_kindOf 100 = .ok (.ifCond .le 30, 3) := by decide +kernel
theorem dX10_kindOf_103 : decode cX10_kindOf 103 = .ok (.lload 6, 2) := by decide +kernel
theorem dX10_kindOf_105 : decode cX10_kindOf 105 = .ok (.lconst 0, 1) := by decide +kernel
theorem dX10_kindOf_106 : decode cX10_kindOf 106 = .ok (.lcmp, 1) := by decide +kernel
theorem dX10_kindOf_107 : decode cX10_kindOf 107 = .ok (.ifCond .le 23, 3) := by decide +kernel
theorem dX10_kindOf_110 : decode cX10_kindOf 110 = .ok (.aload_n 0, 1) := by decide +kernel
theorem dX10_kindOf_111 : decode cX10_kindOf 111 = .ok (.getfield 23, 3) := by decide +kernel
theorem dX10_kindOf_114 : decode cX10_kindOf 114 = .ok (.sipush 300, 3) := by decide +kernel
theorem dX10_kindOf_117 : decode cX10_kindOf 117 = .ok (.iload_n 1, 1) := by decide +kernel
theorem dX10_kindOf_118 : decode cX10_kindOf 118 = .ok (.imul, 1) := by decide +kernel
theorem dX10_kindOf_119 : decode cX10_kindOf 119 = .ok (.iload 4, 2) := by decide +kernel
theorem dX10_kindOf_121 : decode cX10_kindOf 121 = .ok (.iadd, 1) := by decide +kernel
theorem dX10_kindOf_122 : decode cX10_kindOf 122 = .ok (.laload, 1) := by decide +kernel
theorem dX10_kindOf_123 : decode cX10_kindOf 123 = .ok (.lconst 0, 1) := by decide +kernel
theorem dX10_kindOf_124 : decode cX10_kindOf 124 = .ok (.lcmp, 1) := by decide +kernel
theorem dX10_kindOf_125 : decode cX10_kindOf 125 = .ok (.ifCond .ne 5, 3) := by decide +kernel
theorem dX10_kindOf_128 : decode cX10_kindOf 128 = .ok (.iconst 3, 1) := by decide +kernel
theorem dX10_kindOf_129 : decode cX10_kindOf 129 = .ok (.ireturn, 1) := by decide +kernel
theorem dX10_kindOf_130 : decode cX10_kindOf 130 = .ok (.iload 5, 2) := by decide +kernel
theorem dX10_kindOf_132 : decode cX10_kindOf 132 = .ok (.iconst 1, 1) := by decide +kernel
theorem dX10_kindOf_133 : decode cX10_kindOf 133 = .ok (.if_icmp .le 39, 3) := by decide +kernel
theorem dX10_kindOf_136 : decode cX10_kindOf 136 = .ok (.iload 4, 2) := by decide +kernel
theorem dX10_kindOf_138 : decode cX10_kindOf 138 = .ok (.ifCond .ne 34, 3) := by decide +kernel
theorem dX10_kindOf_141 : decode cX10_kindOf 141 = .ok (.lload 6, 2) := by decide +kernel
theorem dX10_kindOf_143 : decode cX10_kindOf 143 = .ok (.lconst 0, 1) := by decide +kernel
theorem dX10_kindOf_144 : decode cX10_kindOf 144 = .ok (.lcmp, 1) := by decide +kernel
theorem dX10_kindOf_145 : decode cX10_kindOf 145 = .ok (.ifCond .le 27, 3) := by decide +kernel
theorem dX10_kindOf_148 : decode cX10_kindOf 148 = .ok (.aload_n 0, 1) := by decide +kernel
theorem dX10_kindOf_149 : decode cX10_kindOf 149 = .ok (.getfield 23, 3) := by decide +kernel
theorem dX10_kindOf_152 : decode cX10_kindOf 152 = .ok (.sipush 300, 3) := by decide +kernel
theorem dX10_kindOf_155 : decode cX10_kindOf 155 = .ok (.iload_n 1, 1) := by decide +kernel
theorem dX10_kindOf_156 : decode cX10_kindOf 156 = .ok (.imul, 1) := by decide +kernel
theorem dX10_kindOf_157 : decode cX10_kindOf 157 = .ok (.iload 5, 2) := by decide +kernel
theorem dX10_kindOf_159 : decode cX10_kindOf 159 = .ok (.iadd, 1) := by decide +kernel
theorem dX10_kindOf_160 : decode cX10_kindOf 160 = .ok (.iconst 1, 1) := by decide +kernel
theorem dX10_kindOf_161 : decode cX10_kindOf 161 = .ok (.isub, 1) := by decide +kernel
theorem dX10_kindOf_162 : decode cX10_kindOf 162 = .ok (.laload, 1) := by decide +kernel
theorem dX10_kindOf_163 : decode cX10_kindOf 163 = .ok (.lconst 0, 1) := by decide +kernel
theorem dX10_kindOf_164 : decode cX10_kindOf 164 = .ok (.lcmp, 1) := by decide +kernel
theorem dX10_kindOf_165 : decode cX10_kindOf 165 = .ok (.ifCond .ne 7, 3) := by decide +kernel
theorem dX10_kindOf_168 : decode cX10_kindOf 168 = .ok (.iconst 4, 1) := by decide +kernel
theorem dX10_kindOf_169 : decode cX10_kindOf 169 = .ok (.goto 4, 3) := by decide +kernel
theorem dX10_kindOf_172 : decode cX10_kindOf 172 = .ok (.iconst 0, 1) := by decide +kernel
theorem dX10_kindOf_173 : decode cX10_kindOf 173 = .ok (.ireturn, 1) := by decide +kernel
theorem dX10_settle_0 : decode cX10_settle 0 = .ok (.aload_n 0, 1) := by decide +kernel
theorem dX10_settle_1 : decode cX10_settle 1 = .ok (.iload_n 1, 1) := by decide +kernel
theorem dX10_settle_2 : decode cX10_settle 2 = .ok (.lload_n 2, 1) := by decide +kernel
theorem dX10_settle_3 : decode cX10_settle 3 = .ok (.sipush 200, 3) := by decide +kernel
theorem dX10_settle_6 : decode cX10_settle 6 = .ok (.invokevirtual 54, 3) := by decide +kernel
theorem dX10_settle_9 : decode cX10_settle 9 = .ok (.ifCond .ne 10, 3) := by decide +kernel
theorem dX10_settle_12 : decode cX10_settle 12 = .ok (.aload_n 0, 1) := by decide +kernel
theorem dX10_settle_13 : decode cX10_settle 13 = .ok (.bipush (-4), 2) := by decide +kernel
theorem dX10_settle_15 : decode cX10_settle 15 = .ok (.invokevirtual 58, 3) := by decide +kernel
theorem dX10_settle_18 : decode cX10_settle 18 = .ok (.ireturn, 1) := by decide +kernel
theorem dX10_settle_19 : decode cX10_settle 19 = .ok (.iconst 1, 1) := by decide +kernel
theorem dX10_settle_20 : decode cX10_settle 20 = .ok (.istore 4, 2) := by decide +kernel
theorem dX10_settle_22 : decode cX10_settle 22 = .ok (.iload_n 1, 1) := by decide +kernel
theorem dX10_settle_23 : decode cX10_settle 23 = .ok (.iload 4, 2) := by decide +kernel
theorem dX10_settle_25 : decode cX10_settle 25 = .ok (.irem, 1) := by decide +kernel
theorem dX10_settle_26 : decode cX10_settle 26 = .ok (.ifCond .ne 36, 3) := by decide +kernel
theorem dX10_settle_29 : decode cX10_settle 29 = .ok (.lload_n 2, 1) := by decide +kernel
theorem dX10_settle_30 : decode cX10_settle 30 = .ok (.iload 4, 2) := by decide +kernel
theorem dX10_settle_32 : decode cX10_settle 32 = .ok (.i2l, 1) := by decide +kernel
theorem dX10_settle_33 : decode cX10_settle 33 = .ok (.lmul, 1) := by decide +kernel
theorem dX10_settle_34 : decode cX10_settle 34 = .ok (.iload_n 1, 1) := by decide +kernel
theorem dX10_settle_35 : decode cX10_settle 35 = .ok (.i2l, 1) := by decide +kernel
theorem dX10_settle_36 : decode cX10_settle 36 = .ok (.lrem, 1) := by decide +kernel
theorem dX10_settle_37 : decode cX10_settle 37 = .ok (.lconst 0, 1) := by decide +kernel
theorem dX10_settle_38 : decode cX10_settle 38 = .ok (.lcmp, 1) := by decide +kernel
theorem dX10_settle_39 : decode cX10_settle 39 = .ok (.ifCond .ne 23, 3) := by decide +kernel
theorem dX10_settle_42 : decode cX10_settle 42 = .ok (.aload_n 0, 1) := by decide +kernel
theorem dX10_settle_43 : decode cX10_settle 43 = .ok (.iload 4, 2) := by decide +kernel
theorem dX10_settle_45 : decode cX10_settle 45 = .ok (.lload_n 2, 1) := by decide +kernel
theorem dX10_settle_46 : decode cX10_settle 46 = .ok (.iload 4, 2) := by decide +kernel
theorem dX10_settle_48 : decode cX10_settle 48 = .ok (.i2l, 1) := by decide +kernel
theorem dX10_settle_49 : decode cX10_settle 49 = .ok (.lmul, 1) := by decide +kernel
theorem dX10_settle_50 : decode cX10_settle 50 = .ok (.iload_n 1, 1) := by decide +kernel
theorem dX10_settle_51 : decode cX10_settle 51 = .ok (.i2l, 1) := by decide +kernel
theorem dX10_settle_52 : decode cX10_settle 52 = .ok (.ldiv, 1) := by decide +kernel
theorem dX10_settle_53 : decode cX10_settle 53 = .ok (.sipush 200, 3) := by decide +kernel
theorem dX10_settle_56 : decode cX10_settle 56 = .ok (.invokevirtual 54, 3) := by decide +kernel
theorem dX10_settle_59 : decode cX10_settle 59 = .ok (.ifCond .ne 9, 3) := by decide +kernel
theorem dX10_settle_62 : decode cX10_settle 62 = .ok (.iinc 4 1, 3) := by decide +kernel
theorem dX10_settle_65 : decode cX10_settle 65 = .ok (.goto (-43), 3) := by decide +kernel
theorem dX10_settle_68 : decode cX10_settle 68 = .ok (.lload_n 2, 1) := by decide +kernel
theorem dX10_settle_69 : decode cX10_settle 69 = .ok (.iload 4, 2) := by decide +kernel
theorem dX10_settle_71 : decode cX10_settle 71 = .ok (.i2l, 1) := by decide +kernel
theorem dX10_settle_72 : decode cX10_settle 72 = .ok (.lmul, 1) := by decide +kernel
theorem dX10_settle_73 : decode cX10_settle 73 = .ok (.iload_n 1, 1) := by decide +kernel
theorem dX10_settle_74 : decode cX10_settle 74 = .ok (.i2l, 1) := by decide +kernel
theorem dX10_settle_75 : decode cX10_settle 75 = .ok (.ldiv, 1) := by decide +kernel
theorem dX10_settle_76 : decode cX10_settle 76 = .ok (.lstore 5, 2) := by decide +kernel
theorem dX10_settle_78 : decode cX10_settle 78 = .ok (.sipush 200, 3) := by decide +kernel
theorem dX10_settle_81 : decode cX10_settle 81 = .ok (.istore 7, 2) := by decide +kernel
theorem dX10_settle_83 : decode cX10_settle 83 = .ok (.iload 7, 2) := by decide +kernel
theorem dX10_settle_85 : decode cX10_settle 85 = .ok (.ifCond .le 37, 3) := by decide +kernel
theorem dX10_settle_88 : decode cX10_settle 88 = .ok (.aload_n 0, 1) := by decide +kernel
theorem dX10_settle_89 : decode cX10_settle 89 = .ok (.getfield 39, 3) := by decide +kernel
theorem dX10_settle_92 : decode cX10_settle 92 = .ok (.iload 7, 2) := by decide +kernel
theorem dX10_settle_94 : decode cX10_settle 94 = .ok (.iconst 1, 1) := by decide +kernel
theorem dX10_settle_95 : decode cX10_settle 95 = .ok (.isub, 1) := by decide +kernel
theorem dX10_settle_96 : decode cX10_settle 96 = .ok (.iload 4, 2) := by decide +kernel
theorem dX10_settle_98 : decode cX10_settle 98 = .ok (.iadd, 1) := by decide +kernel
theorem dX10_settle_99 : decode cX10_settle 99 = .ok (.laload, 1) := by decide +kernel
theorem dX10_settle_100 : decode cX10_settle 100 = .ok (.aload_n 0, 1) := by decide +kernel
theorem dX10_settle_101 : decode cX10_settle 101 = .ok (.getfield 39, 3) := by decide +kernel
theorem dX10_settle_104 : decode cX10_settle 104 = .ok (.iload 7, 2) := by decide +kernel
theorem dX10_settle_106 : decode cX10_settle 106 = .ok (.iconst 1, 1) := by decide +kernel
theorem dX10_settle_107 : decode cX10_settle 107 = .ok (.isub, 1) := by decide +kernel
theorem dX10_settle_108 : decode cX10_settle 108 = .ok (.laload, 1) := by decide +kernel
theorem dX10_settle_109 : decode cX10_settle 109 = .ok (.lload 5, 2) := by decide +kernel
theorem dX10_settle_111 : decode cX10_settle 111 = .ok (.ladd, 1) := by decide +kernel
theorem dX10_settle_112 : decode cX10_settle 112 = .ok (.lcmp, 1) := by decide +kernel
theorem dX10_settle_113 : decode cX10_settle 113 = .ok (.ifCond .ne 9, 3) := by decide +kernel
theorem dX10_settle_116 : decode cX10_settle 116 = .ok (.iinc 7 (-1), 3) := by decide +kernel
theorem dX10_settle_119 : decode cX10_settle 119 = .ok (.goto (-36), 3) := by decide +kernel
theorem dX10_settle_122 : decode cX10_settle 122 = .ok (.iload 4, 2) := by decide +kernel
theorem dX10_settle_124 : decode cX10_settle 124 = .ok (.bipush 60, 2) := by decide +kernel
theorem dX10_settle_126 : decode cX10_settle 126 = .ok (.if_icmp .gt 16, 3) := by decide +kernel
theorem dX10_settle_129 : decode cX10_settle 129 = .ok (.lload 5, 2) := by decide +kernel
theorem dX10_settle_131 : decode cX10_settle 131 = .ok (.ldc2_w 62, 3) := by decide +kernel
theorem dX10_settle_134 : decode cX10_settle 134 = .ok (.lcmp, 1) := by decide +kernel
theorem dX10_settle_135 : decode cX10_settle 135 = .ok (.ifCond .gt 7, 3) := by decide +kernel
theorem dX10_settle_138 : decode cX10_settle 138 = .ok (.iconst 1, 1) := by decide +kernel
theorem dX10_settle_139 : decode cX10_settle 139 = .ok (.goto 4, 3) := by decide +kernel
theorem dX10_settle_142 : decode cX10_settle 142 = .ok (.iconst 0, 1) := by decide +kernel
theorem dX10_settle_143 : decode cX10_settle 143 = .ok (.istore 8, 2) := by decide +kernel
theorem dX10_settle_145 : decode cX10_settle 145 = .ok (.iconst 0, 1) := by decide +kernel
theorem dX10_settle_146 : decode cX10_settle 146 = .ok (.istore 9, 2) := by decide +kernel
theorem dX10_settle_148 : decode cX10_settle 148 = .ok (.iload 9, 2) := by decide +kernel
theorem dX10_settle_150 : decode cX10_settle 150 = .ok (.iload 7, 2) := by decide +kernel
theorem dX10_settle_152 : decode cX10_settle 152 = .ok (.iload 4, 2) := by decide +kernel
theorem dX10_settle_154 : decode cX10_settle 154 = .ok (.iadd, 1) := by decide +kernel
theorem dX10_settle_155 : decode cX10_settle 155 = .ok (.if_icmp .ge 35, 3) := by decide +kernel
theorem dX10_settle_158 : decode cX10_settle 158 = .ok (.iload 8, 2) := by decide +kernel
theorem dX10_settle_160 : decode cX10_settle 160 = .ok (.ifCond .eq 30, 3) := by decide +kernel
theorem dX10_settle_163 : decode cX10_settle 163 = .ok (.aload_n 0, 1) := by decide +kernel
theorem dX10_settle_164 : decode cX10_settle 164 = .ok (.getfield 39, 3) := by decide +kernel
theorem dX10_settle_167 : decode cX10_settle 167 = .ok (.iload 9, 2) := by decide +kernel
theorem dX10_settle_169 : decode cX10_settle 169 = .ok (.laload, 1) := by decide +kernel
theorem dX10_settle_170 : decode cX10_settle 170 = .ok (.ldc2_w 64, 3) := by decide +kernel
theorem dX10_settle_173 : decode cX10_settle 173 = .ok (.lcmp, 1) := by decide +kernel
theorem dX10_settle_174 : decode cX10_settle 174 = .ok (.ifCond .gt 7, 3) := by decide +kernel
theorem dX10_settle_177 : decode cX10_settle 177 = .ok (.iconst 1, 1) := by decide +kernel
theorem dX10_settle_178 : decode cX10_settle 178 = .ok (.goto 4, 3) := by decide +kernel
theorem dX10_settle_181 : decode cX10_settle 181 = .ok (.iconst 0, 1) := by decide +kernel
theorem dX10_settle_182 : decode cX10_settle 182 = .ok (.istore 8, 2) := by decide +kernel
theorem dX10_settle_184 : decode cX10_settle 184 = .ok (.iinc 9 1, 3) := by decide +kernel
theorem dX10_settle_187 : decode cX10_settle 187 = .ok (.goto (-39), 3) := by decide +kernel
theorem dX10_settle_190 : decode cX10_settle 190 = .ok (.iload 8, 2) := by decide +kernel
theorem dX10_settle_192 : decode cX10_settle 192 = .ok (.ifCond .ne 10, 3) := by decide +kernel
theorem dX10_settle_195 : decode cX10_settle 195 = .ok (.aload_n 0, 1) := by decide +kernel
theorem dX10_settle_196 : decode cX10_settle 196 = .ok (.bipush (-4), 2) := by decide +kernel
theorem dX10_settle_198 : decode cX10_settle 198 = .ok (.invokevirtual 58, 3) := by decide +kernel
theorem dX10_settle_201 : decode cX10_settle 201 = .ok (.ireturn, 1) := by decide +kernel
theorem dX10_settle_202 : decode cX10_settle 202 = .ok (.aload_n 0, 1) := by decide +kernel
theorem dX10_settle_203 : decode cX10_settle 203 = .ok (.getfield 47, 3) := by decide +kernel
theorem dX10_settle_206 : decode cX10_settle 206 = .ok (.istore 9, 2) := by decide +kernel
theorem dX10_settle_208 : decode cX10_settle 208 = .ok (.aload_n 0, 1) := by decide +kernel
theorem dX10_settle_209 : decode cX10_settle 209 = .ok (.getfield 7, 3) := by decide +kernel
theorem dX10_settle_212 : decode cX10_settle 212 = .ok (.iload 9, 2) := by decide +kernel
theorem dX10_settle_214 : decode cX10_settle 214 = .ok (.iload 7, 2) := by decide +kernel
theorem dX10_settle_216 : decode cX10_settle 216 = .ok (.iastore, 1) := by decide +kernel
theorem dX10_settle_217 : decode cX10_settle 217 = .ok (.aload_n 0, 1) := by decide +kernel
theorem dX10_settle_218 : decode cX10_settle 218 = .ok (.getfield 13, 3) := by decide +kernel
theorem dX10_settle_221 : decode cX10_settle 221 = .ok (.iload 9, 2) := by decide +kernel
theorem dX10_settle_223 : decode cX10_settle 223 = .ok (.iload 4, 2) := by decide +kernel
theorem dX10_settle_225 : decode cX10_settle 225 = .ok (.iastore, 1) := by decide +kernel
theorem dX10_settle_226 : decode cX10_settle 226 = .ok (.aload_n 0, 1) := by decide +kernel
theorem dX10_settle_227 : decode cX10_settle 227 = .ok (.getfield 16, 3) := by decide +kernel
theorem dX10_settle_230 : decode cX10_settle 230 = .ok (.iload 9, 2) := by decide +kernel
theorem dX10_settle_232 : decode cX10_settle 232 = .ok (.lload 5, 2) := by decide +kernel
theorem dX10_settle_234 : decode cX10_settle 234 = .ok (.lastore, 1) := by decide +kernel
theorem dX10_settle_235 : decode cX10_settle 235 = .ok (.iconst 0, 1) := by decide +kernel
theorem dX10_settle_236 : decode cX10_settle 236 = .ok (.istore 10, 2) := by decide +kernel
theorem dX10_settle_238 : decode cX10_settle 238 = .ok (.iload 10, 2) := by decide +kernel
theorem dX10_settle_240 : decode cX10_settle 240 = .ok (.iload 7, 2) := by decide +kernel
theorem dX10_settle_242 : decode cX10_settle 242 = .ok (.iload 4, 2) := by decide +kernel
theorem dX10_settle_244 : decode cX10_settle 244 = .ok (.iadd, 1) := by decide +kernel
theorem dX10_settle_245 : decode cX10_settle 245 = .ok (.if_icmp .ge 30, 3) := by decide +kernel
theorem dX10_settle_248 : decode cX10_settle 248 = .ok (.aload_n 0, 1) := by decide +kernel
theorem dX10_settle_249 : decode cX10_settle 249 = .ok (.getfield 23, 3) := by decide +kernel
theorem dX10_settle_252 : decode cX10_settle 252 = .ok (.sipush 300, 3) := by decide +kernel
theorem dX10_settle_255 : decode cX10_settle 255 = .ok (.iload 9, 2) := by decide +kernel
theorem dX10_settle_257 : decode cX10_settle 257 = .ok (.imul, 1) := by decide +kernel
theorem dX10_settle_258 : decode cX10_settle 258 = .ok (.iload 10, 2) := by decide +kernel
theorem dX10_settle_260 : decode cX10_settle 260 = .ok (.iadd, 1) := by decide +kernel
theorem dX10_settle_261 : decode cX10_settle 261 = .ok (.aload_n 0, 1) := by decide +kernel
theorem dX10_settle_262 : decode cX10_settle 262 = .ok (.getfield 39, 3) := by decide +kernel
theorem dX10_settle_265 : decode cX10_settle 265 = .ok (.iload 10, 2) := by decide +kernel
theorem dX10_settle_267 : decode cX10_settle 267 = .ok (.laload, 1) := by decide +kernel
theorem dX10_settle_268 : decode cX10_settle 268 = .ok (.lastore, 1) := by decide +kernel
theorem dX10_settle_269 : decode cX10_settle 269 = .ok (.iinc 10 1, 3) := by decide +kernel
theorem dX10_settle_272 : decode cX10_settle 272 = .ok (.goto (-34), 3) := by decide +kernel
theorem dX10_settle_275 : decode cX10_settle 275 = .ok (.aload_n 0, 1) := by decide +kernel
theorem dX10_settle_276 : decode cX10_settle 276 = .ok (.getfield 20, 3) := by decide +kernel
theorem dX10_settle_279 : decode cX10_settle 279 = .ok (.iload 9, 2) := by decide +kernel
theorem dX10_settle_281 : decode cX10_settle 281 = .ok (.aload_n 0, 1) := by decide +kernel
theorem dX10_settle_282 : decode cX10_settle 282 = .ok (.iload 9, 2) := by decide +kernel
theorem dX10_settle_284 : decode cX10_settle 284 = .ok (.invokevirtual 66, 3) := by decide +kernel
theorem dX10_settle_287 : decode cX10_settle 287 = .ok (.iastore, 1) := by decide +kernel
theorem dX10_settle_288 : decode cX10_settle 288 = .ok (.aload_n 0, 1) := by decide +kernel
theorem dX10_settle_289 : decode cX10_settle 289 = .ok (.dup, 1) := by decide +kernel
theorem dX10_settle_290 : decode cX10_settle 290 = .ok (.getfield 47, 3) := by decide +kernel
theorem dX10_settle_293 : decode cX10_settle 293 = .ok (.iconst 1, 1) := by decide +kernel
theorem dX10_settle_294 : decode cX10_settle 294 = .ok (.iadd, 1) := by decide +kernel
theorem dX10_settle_295 : decode cX10_settle 295 = .ok (.putfield 47, 3) := by decide +kernel
theorem dX10_settle_298 : decode cX10_settle 298 = .ok (.aload_n 0, 1) := by decide +kernel
theorem dX10_settle_299 : decode cX10_settle 299 = .ok (.iconst 1, 1) := by decide +kernel
theorem dX10_settle_300 : decode cX10_settle 300 = .ok (.putfield 69, 3) := by decide +kernel
theorem dX10_settle_303 : decode cX10_settle 303 = .ok (.aload_n 0, 1) := by decide +kernel
theorem dX10_settle_304 : decode cX10_settle 304 = .ok (.iload 9, 2) := by decide +kernel
theorem dX10_settle_306 : decode cX10_settle 306 = .ok (.invokevirtual 73, 3) := by decide +kernel
theorem dX10_settle_309 : decode cX10_settle 309 = .ok (.ireturn, 1) := by decide +kernel
theorem dX10_put_0 : decode cX10_put 0 = .ok (.lload_n 1, 1) := by decide +kernel
theorem dX10_put_1 : decode cX10_put 1 = .ok (.lconst 0, 1) := by decide +kernel
theorem dX10_put_2 : decode cX10_put 2 = .ok (.ldc2_w 64, 3) := by decide +kernel
theorem dX10_put_5 : decode cX10_put 5 = .ok (.invokestatic 50, 3) := by decide +kernel
theorem dX10_put_8 : decode cX10_put 8 = .ok (.ifCond .ne 9, 3) := by decide +kernel
theorem dX10_put_11 : decode cX10_put 11 = .ok (.aload_n 0, 1) := by decide +kernel
theorem dX10_put_12 : decode cX10_put 12 = .ok (.iconst (-1), 1) := by decide +kernel
theorem dX10_put_13 : decode cX10_put 13 = .ok (.invokevirtual 58, 3) := by decide +kernel
theorem dX10_put_16 : decode cX10_put 16 = .ok (.ireturn, 1) := by decide +kernel
theorem dX10_put_17 : decode cX10_put 17 = .ok (.aload_n 0, 1) := by decide +kernel
theorem dX10_put_18 : decode cX10_put 18 = .ok (.getfield 76, 3) := by decide +kernel
theorem dX10_put_21 : decode cX10_put 21 = .ok (.sipush 300, 3) := by decide +kernel
theorem dX10_put_24 : decode cX10_put 24 = .ok (.if_icmp .ne 10, 3) := by decide +kernel
theorem dX10_put_27 : decode cX10_put 27 = .ok (.aload_n 0, 1) := by decide +kernel
theorem dX10_put_28 : decode cX10_put 28 = .ok (.bipush (-3), 2) := by decide +kernel
theorem dX10_put_30 : decode cX10_put 30 = .ok (.invokevirtual 58, 3) := by decide +kernel
theorem dX10_put_33 : decode cX10_put 33 = .ok (.ireturn, 1) := by decide +kernel
theorem dX10_put_34 : decode cX10_put 34 = .ok (.aload_n 0, 1) := by decide +kernel
theorem dX10_put_35 : decode cX10_put 35 = .ok (.getfield 26, 3) := by decide +kernel
theorem dX10_put_38 : decode cX10_put 38 = .ok (.aload_n 0, 1) := by decide +kernel
theorem dX10_put_39 : decode cX10_put 39 = .ok (.getfield 76, 3) := by decide +kernel
theorem dX10_put_42 : decode cX10_put 42 = .ok (.lload_n 1, 1) := by decide +kernel
theorem dX10_put_43 : decode cX10_put 43 = .ok (.lastore, 1) := by decide +kernel
theorem dX10_put_44 : decode cX10_put 44 = .ok (.aload_n 0, 1) := by decide +kernel
theorem dX10_put_45 : decode cX10_put 45 = .ok (.dup, 1) := by decide +kernel
theorem dX10_put_46 : decode cX10_put 46 = .ok (.getfield 76, 3) := by decide +kernel
theorem dX10_put_49 : decode cX10_put 49 = .ok (.iconst 1, 1) := by decide +kernel
theorem dX10_put_50 : decode cX10_put 50 = .ok (.iadd, 1) := by decide +kernel
theorem dX10_put_51 : decode cX10_put 51 = .ok (.putfield 76, 3) := by decide +kernel
theorem dX10_put_54 : decode cX10_put 54 = .ok (.aload_n 0, 1) := by decide +kernel
theorem dX10_put_55 : decode cX10_put 55 = .ok (.aload_n 0, 1) := by decide +kernel
theorem dX10_put_56 : decode cX10_put 56 = .ok (.getfield 76, 3) := by decide +kernel
theorem dX10_put_59 : decode cX10_put 59 = .ok (.invokevirtual 73, 3) := by decide +kernel
theorem dX10_put_62 : decode cX10_put 62 = .ok (.ireturn, 1) := by decide +kernel
theorem dX10_draw_0 : decode cX10_draw 0 = .ok (.iload_n 1, 1) := by decide +kernel
theorem dX10_draw_1 : decode cX10_draw 1 = .ok (.i2l, 1) := by decide +kernel
theorem dX10_draw_2 : decode cX10_draw 2 = .ok (.lconst 1, 1) := by decide +kernel
theorem dX10_draw_3 : decode cX10_draw 3 = .ok (.ldc2_w 79, 3) := by decide +kernel
theorem dX10_draw_6 : decode cX10_draw 6 = .ok (.invokestatic 50, 3) := by decide +kernel
theorem dX10_draw_9 : decode cX10_draw 9 = .ok (.ifCond .eq 15, 3) := by decide +kernel
theorem dX10_draw_12 : decode cX10_draw 12 = .ok (.iload_n 3, 1) := by decide +kernel
theorem dX10_draw_13 : decode cX10_draw 13 = .ok (.i2l, 1) := by decide +kernel
theorem dX10_draw_14 : decode cX10_draw 14 = .ok (.lconst 0, 1) := by decide +kernel
theorem dX10_draw_15 : decode cX10_draw 15 = .ok (.ldc2_w 81, 3) := by decide +kernel
theorem dX10_draw_18 : decode cX10_draw 18 = .ok (.invokestatic 50, 3) := by decide +kernel
theorem dX10_draw_21 : decode cX10_draw 21 = .ok (.ifCond .ne 9, 3) := by decide +kernel
theorem dX10_draw_24 : decode cX10_draw 24 = .ok (.aload_n 0, 1) := by decide +kernel
theorem dX10_draw_25 : decode cX10_draw 25 = .ok (.iconst (-1), 1) := by decide +kernel
theorem dX10_draw_26 : decode cX10_draw 26 = .ok (.invokevirtual 58, 3) := by decide +kernel
theorem dX10_draw_29 : decode cX10_draw 29 = .ok (.ireturn, 1) := by decide +kernel
theorem dX10_draw_30 : decode cX10_draw 30 = .ok (.aload_n 0, 1) := by decide +kernel
theorem dX10_draw_31 : decode cX10_draw 31 = .ok (.getfield 76, 3) := by decide +kernel
theorem dX10_draw_34 : decode cX10_draw 34 = .ok (.iload_n 1, 1) := by decide +kernel
theorem dX10_draw_35 : decode cX10_draw 35 = .ok (.iadd, 1) := by decide +kernel
theorem dX10_draw_36 : decode cX10_draw 36 = .ok (.sipush 300, 3) := by decide +kernel
theorem dX10_draw_39 : decode cX10_draw 39 = .ok (.if_icmp .le 10, 3) := by decide +kernel
theorem dX10_draw_42 : decode cX10_draw 42 = .ok (.aload_n 0, 1) := by decide +kernel
theorem dX10_draw_43 : decode cX10_draw 43 = .ok (.bipush (-3), 2) := by decide +kernel
theorem dX10_draw_45 : decode cX10_draw 45 = .ok (.invokevirtual 58, 3) := by decide +kernel
theorem dX10_draw_48 : decode cX10_draw 48 = .ok (.ireturn, 1) := by decide +kernel
theorem dX10_draw_49 : decode cX10_draw 49 = .ok (.iload_n 2, 1) := by decide +kernel
theorem dX10_draw_50 : decode cX10_draw 50 = .ok (.istore 4, 2) := by decide +kernel
theorem dX10_draw_52 : decode cX10_draw 52 = .ok (.iconst 0, 1) := by decide +kernel
theorem dX10_draw_53 : decode cX10_draw 53 = .ok (.istore 5, 2) := by decide +kernel
theorem dX10_draw_55 : decode cX10_draw 55 = .ok (.iload 5, 2) := by decide +kernel
theorem dX10_draw_57 : decode cX10_draw 57 = .ok (.iload_n 1, 1) := by decide +kernel
theorem dX10_draw_58 : decode cX10_draw 58 = .ok (.if_icmp .ge 75, 3) := by decide +kernel
theorem dX10_draw_61 : decode cX10_draw 61 = .ok (.iload 4, 2) := by decide +kernel
theorem dX10_draw_63 : decode cX10_draw 63 = .ok (.ldc 83, 2) := by decide +kernel
theorem dX10_draw_65 : decode cX10_draw 65 = .ok (.imul, 1) := by decide +kernel
theorem dX10_draw_66 : decode cX10_draw 66 = .ok (.sipush 12345, 3) := by decide +kernel
theorem dX10_draw_69 : decode cX10_draw 69 = .ok (.iadd, 1) := by decide +kernel
theorem dX10_draw_70 : decode cX10_draw 70 = .ok (.ldc 84, 2) := by decide +kernel
theorem dX10_draw_72 : decode cX10_draw 72 = .ok (.iand, 1) := by decide +kernel
theorem dX10_draw_73 : decode cX10_draw 73 = .ok (.istore 4, 2) := by decide +kernel
theorem dX10_draw_75 : decode cX10_draw 75 = .ok (.aload_n 0, 1) := by decide +kernel
theorem dX10_draw_76 : decode cX10_draw 76 = .ok (.getfield 26, 3) := by decide +kernel
theorem dX10_draw_79 : decode cX10_draw 79 = .ok (.aload_n 0, 1) := by decide +kernel
theorem dX10_draw_80 : decode cX10_draw 80 = .ok (.getfield 76, 3) := by decide +kernel
theorem dX10_draw_83 : decode cX10_draw 83 = .ok (.aload_n 0, 1) := by decide +kernel
theorem dX10_draw_84 : decode cX10_draw 84 = .ok (.getfield 76, 3) := by decide +kernel
theorem dX10_draw_87 : decode cX10_draw 87 = .ok (.ifCond .ne 7, 3) := by decide +kernel
theorem dX10_draw_90 : decode cX10_draw 90 = .ok (.lconst 0, 1) := by decide +kernel
theorem dX10_draw_91 : decode cX10_draw 91 = .ok (.goto 14, 3) := by decide +kernel
theorem dX10_draw_94 : decode cX10_draw 94 = .ok (.aload_n 0, 1) := by decide +kernel
theorem dX10_draw_95 : decode cX10_draw 95 = .ok (.getfield 26, 3) := by decide +kernel
theorem dX10_draw_98 : decode cX10_draw 98 = .ok (.aload_n 0, 1) := by decide +kernel
theorem dX10_draw_99 : decode cX10_draw 99 = .ok (.getfield 76, 3) := by decide +kernel
theorem dX10_draw_102 : decode cX10_draw 102 = .ok (.iconst 1, 1) := by decide +kernel
theorem dX10_draw_103 : decode cX10_draw 103 = .ok (.isub, 1) := by decide +kernel
theorem dX10_draw_104 : decode cX10_draw 104 = .ok (.laload, 1) := by decide +kernel
theorem dX10_draw_105 : decode cX10_draw 105 = .ok (.iload 4, 2) := by decide +kernel
theorem dX10_draw_107 : decode cX10_draw 107 = .ok (.bipush 8, 2) := by decide +kernel
theorem dX10_draw_109 : decode cX10_draw 109 = .ok (.ishr, 1) := by decide +kernel
theorem dX10_draw_110 : decode cX10_draw 110 = .ok (.iload_n 3, 1) := by decide +kernel
theorem dX10_draw_111 : decode cX10_draw 111 = .ok (.iconst 1, 1) := by decide +kernel
theorem dX10_draw_112 : decode cX10_draw 112 = .ok (.iadd, 1) := by decide +kernel
theorem dX10_draw_113 : decode cX10_draw 113 = .ok (.irem, 1) := by decide +kernel
theorem dX10_draw_114 : decode cX10_draw 114 = .ok (.i2l, 1) := by decide +kernel
theorem dX10_draw_115 : decode cX10_draw 115 = .ok (.ladd, 1) := by decide +kernel
theorem dX10_draw_116 : decode cX10_draw 116 = .ok (.lastore, 1) := by decide +kernel
theorem dX10_draw_117 : decode cX10_draw 117 = .ok (.aload_n 0, 1) := by decide +kernel
theorem dX10_draw_118 : decode cX10_draw 118 = .ok (.dup, 1) := by decide +kernel
theorem dX10_draw_119 : decode cX10_draw 119 = .ok (.getfield 76, 3) := by decide +kernel
theorem dX10_draw_122 : decode cX10_draw 122 = .ok (.iconst 1, 1) := by decide +kernel
theorem dX10_draw_123 : decode cX10_draw 123 = .ok (.iadd, 1) := by decide +kernel
theorem dX10_draw_124 : decode cX10_draw 124 = .ok (.putfield 76, 3) := by decide +kernel
theorem dX10_draw_127 : decode cX10_draw 127 = .ok (.iinc 5 1, 3) := by decide +kernel
theorem dX10_draw_130 : decode cX10_draw 130 = .ok (.goto (-75), 3) := by decide +kernel
theorem dX10_draw_133 : decode cX10_draw 133 = .ok (.aload_n 0, 1) := by decide +kernel
theorem dX10_draw_134 : decode cX10_draw 134 = .ok (.aload_n 0, 1) := by decide +kernel
theorem dX10_draw_135 : decode cX10_draw 135 = .ok (.getfield 76, 3) := by decide +kernel
theorem dX10_draw_138 : decode cX10_draw 138 = .ok (.invokevirtual 73, 3) := by decide +kernel
theorem dX10_draw_141 : decode cX10_draw 141 = .ok (.ireturn, 1) := by decide +kernel
theorem dX10_drop_0 : decode cX10_drop 0 = .ok (.aload_n 0, 1) := by decide +kernel
theorem dX10_drop_1 : decode cX10_drop 1 = .ok (.getfield 76, 3) := by decide +kernel
theorem dX10_drop_4 : decode cX10_drop 4 = .ok (.istore_n 1, 1) := by decide +kernel
theorem dX10_drop_5 : decode cX10_drop 5 = .ok (.aload_n 0, 1) := by decide +kernel
theorem dX10_drop_6 : decode cX10_drop 6 = .ok (.iconst 0, 1) := by decide +kernel
theorem dX10_drop_7 : decode cX10_drop 7 = .ok (.putfield 76, 3) := by decide +kernel
theorem dX10_drop_10 : decode cX10_drop 10 = .ok (.aload_n 0, 1) := by decide +kernel
theorem dX10_drop_11 : decode cX10_drop 11 = .ok (.iload_n 1, 1) := by decide +kernel
theorem dX10_drop_12 : decode cX10_drop 12 = .ok (.invokevirtual 73, 3) := by decide +kernel
theorem dX10_drop_15 : decode cX10_drop 15 = .ok (.ireturn, 1) := by decide +kernel
theorem dX10_curve_0 : decode cX10_curve 0 = .ok (.iload_n 1, 1) := by decide +kernel
theorem dX10_curve_1 : decode cX10_curve 1 = .ok (.i2l, 1) := by decide +kernel
theorem dX10_curve_2 : decode cX10_curve 2 = .ok (.lconst 1, 1) := by decide +kernel
theorem dX10_curve_3 : decode cX10_curve 3 = .ok (.ldc2_w 85, 3) := by decide +kernel
theorem dX10_curve_6 : decode cX10_curve 6 = .ok (.invokestatic 50, 3) := by decide +kernel
theorem dX10_curve_9 : decode cX10_curve 9 = .ok (.ifCond .eq 15, 3) := by decide +kernel
theorem dX10_curve_12 : decode cX10_curve 12 = .ok (.iload_n 2, 1) := by decide +kernel
theorem dX10_curve_13 : decode cX10_curve 13 = .ok (.i2l, 1) := by decide +kernel
theorem dX10_curve_14 : decode cX10_curve 14 = .ok (.lconst 0, 1) := by decide +kernel
theorem dX10_curve_15 : decode cX10_curve 15 = .ok (.ldc2_w 62, 3) := by decide +kernel
theorem dX10_curve_18 : decode cX10_curve 18 = .ok (.invokestatic 50, 3) := by decide +kernel
theorem dX10_curve_21 : decode cX10_curve 21 = .ok (.ifCond .ne 9, 3) := by decide +kernel
theorem dX10_curve_24 : decode cX10_curve 24 = .ok (.aload_n 0, 1) := by decide +kernel
theorem dX10_curve_25 : decode cX10_curve 25 = .ok (.iconst (-1), 1) := by decide +kernel
theorem dX10_curve_26 : decode cX10_curve 26 = .ok (.invokevirtual 58, 3) := by decide +kernel
theorem dX10_curve_29 : decode cX10_curve 29 = .ok (.ireturn, 1) := by decide +kernel
theorem dX10_curve_30 : decode cX10_curve 30 = .ok (.aload_n 0, 1) := by decide +kernel
theorem dX10_curve_31 : decode cX10_curve 31 = .ok (.getfield 76, 3) := by decide +kernel
theorem dX10_curve_34 : decode cX10_curve 34 = .ok (.iload_n 1, 1) := by decide +kernel
theorem dX10_curve_35 : decode cX10_curve 35 = .ok (.if_icmp .lt 7, 3) := by decide +kernel
theorem dX10_curve_38 : decode cX10_curve 38 = .ok (.iconst 1, 1) := by decide +kernel
theorem dX10_curve_39 : decode cX10_curve 39 = .ok (.goto 4, 3) := by decide +kernel
theorem dX10_curve_42 : decode cX10_curve 42 = .ok (.iconst 0, 1) := by decide +kernel
theorem dX10_curve_43 : decode cX10_curve 43 = .ok (.istore_n 3, 1) := by decide +kernel
theorem dX10_curve_44 : decode cX10_curve 44 = .ok (.iconst 1, 1) := by decide +kernel
theorem dX10_curve_45 : decode cX10_curve 45 = .ok (.istore 4, 2) := by decide +kernel
theorem dX10_curve_47 : decode cX10_curve 47 = .ok (.iload 4, 2) := by decide +kernel
theorem dX10_curve_49 : decode cX10_curve 49 = .ok (.aload_n 0, 1) := by decide +kernel
theorem dX10_curve_50 : decode cX10_curve 50 = .ok (.getfield 76, 3) := by decide +kernel
theorem dX10_curve_53 : decode cX10_curve 53 = .ok (.if_icmp .ge 39, 3) := by decide +kernel
theorem dX10_curve_56 : decode cX10_curve 56 = .ok (.iload_n 3, 1) := by decide +kernel
theorem dX10_curve_57 : decode cX10_curve 57 = .ok (.ifCond .eq 35, 3) := by decide +kernel
theorem dX10_curve_60 : decode cX10_curve 60 = .ok (.aload_n 0, 1) := by decide +kernel
theorem dX10_curve_61 : decode cX10_curve 61 = .ok (.getfield 26, 3) := by decide +kernel
theorem dX10_curve_64 : decode cX10_curve 64 = .ok (.iload 4, 2) := by decide +kernel
theorem dX10_curve_66 : decode cX10_curve 66 = .ok (.laload, 1) := by decide +kernel
theorem dX10_curve_67 : decode cX10_curve 67 = .ok (.aload_n 0, 1) := by decide +kernel
theorem dX10_curve_68 : decode cX10_curve 68 = .ok (.getfield 26, 3) := by decide +kernel
theorem dX10_curve_71 : decode cX10_curve 71 = .ok (.iload 4, 2) := by decide +kernel
theorem dX10_curve_73 : decode cX10_curve 73 = .ok (.iconst 1, 1) := by decide +kernel
theorem dX10_curve_74 : decode cX10_curve 74 = .ok (.isub, 1) := by decide +kernel
theorem dX10_curve_75 : decode cX10_curve 75 = .ok (.laload, 1) := by decide +kernel
theorem dX10_curve_76 : decode cX10_curve 76 = .ok (.lcmp, 1) := by decide +kernel
theorem dX10_curve_77 : decode cX10_curve 77 = .ok (.ifCond .lt 7, 3) := by decide +kernel
theorem dX10_curve_80 : decode cX10_curve 80 = .ok (.iconst 1, 1) := by decide +kernel
theorem dX10_curve_81 : decode cX10_curve 81 = .ok (.goto 4, 3) := by decide +kernel
theorem dX10_curve_84 : decode cX10_curve 84 = .ok (.iconst 0, 1) := by decide +kernel
theorem dX10_curve_85 : decode cX10_curve 85 = .ok (.istore_n 3, 1) := by decide +kernel
theorem dX10_curve_86 : decode cX10_curve 86 = .ok (.iinc 4 1, 3) := by decide +kernel
theorem dX10_curve_89 : decode cX10_curve 89 = .ok (.goto (-42), 3) := by decide +kernel
theorem dX10_curve_92 : decode cX10_curve 92 = .ok (.iload_n 3, 1) := by decide +kernel
theorem dX10_curve_93 : decode cX10_curve 93 = .ok (.ifCond .eq 32, 3) := by decide +kernel
theorem dX10_curve_96 : decode cX10_curve 96 = .ok (.aload_n 0, 1) := by decide +kernel
theorem dX10_curve_97 : decode cX10_curve 97 = .ok (.getfield 26, 3) := by decide +kernel
theorem dX10_curve_100 : decode cX10_curve 100 = .ok (.aload_n 0, 1) := by decide +kernel
theorem dX10_curve_101 : decode cX10_curve 101 = .ok (.getfield 76, 3) := by decide +kernel
theorem dX10_curve_104 : decode cX10_curve 104 = .ok (.iload_n 1, 1) := by decide +kernel
theorem dX10_curve_105 : decode cX10_curve 105 = .ok (.isub, 1) := by decide +kernel
theorem dX10_curve_106 : decode cX10_curve 106 = .ok (.laload, 1) := by decide +kernel
theorem dX10_curve_107 : decode cX10_curve 107 = .ok (.iload_n 2, 1) := by decide +kernel
theorem dX10_curve_108 : decode cX10_curve 108 = .ok (.i2l, 1) := by decide +kernel
theorem dX10_curve_109 : decode cX10_curve 109 = .ok (.ladd, 1) := by decide +kernel
theorem dX10_curve_110 : decode cX10_curve 110 = .ok (.aload_n 0, 1) := by decide +kernel
theorem dX10_curve_111 : decode cX10_curve 111 = .ok (.getfield 26, 3) := by decide +kernel
theorem dX10_curve_114 : decode cX10_curve 114 = .ok (.aload_n 0, 1) := by decide +kernel
theorem dX10_curve_115 : decode cX10_curve 115 = .ok (.getfield 76, 3) := by decide +kernel
theorem dX10_curve_118 : decode cX10_curve 118 = .ok (.iconst 1, 1) := by decide +kernel
theorem dX10_curve_119 : decode cX10_curve 119 = .ok (.isub, 1) := by decide +kernel
theorem dX10_curve_120 : decode cX10_curve 120 = .ok (.laload, 1) := by decide +kernel
theorem dX10_curve_121 : decode cX10_curve 121 = .ok (.lcmp, 1) := by decide +kernel
theorem dX10_curve_122 : decode cX10_curve 122 = .ok (.ifCond .ge 10, 3) := by decide +kernel
theorem dX10_curve_125 : decode cX10_curve 125 = .ok (.aload_n 0, 1) := by decide +kernel
theorem dX10_curve_126 : decode cX10_curve 126 = .ok (.bipush (-2), 2) := by decide +kernel
theorem dX10_curve_128 : decode cX10_curve 128 = .ok (.invokevirtual 58, 3) := by decide +kernel
theorem dX10_curve_131 : decode cX10_curve 131 = .ok (.ireturn, 1) := by decide +kernel
theorem dX10_curve_132 : decode cX10_curve 132 = .ok (.aload_n 0, 1) := by decide +kernel
theorem dX10_curve_133 : decode cX10_curve 133 = .ok (.getfield 47, 3) := by decide +kernel
theorem dX10_curve_136 : decode cX10_curve 136 = .ok (.bipush 60, 2) := by decide +kernel
theorem dX10_curve_138 : decode cX10_curve 138 = .ok (.if_icmp .ne 10, 3) := by decide +kernel
theorem dX10_curve_141 : decode cX10_curve 141 = .ok (.aload_n 0, 1) := by decide +kernel
theorem dX10_curve_142 : decode cX10_curve 142 = .ok (.bipush (-3), 2) := by decide +kernel
theorem dX10_curve_144 : decode cX10_curve 144 = .ok (.invokevirtual 58, 3) := by decide +kernel
theorem dX10_curve_147 : decode cX10_curve 147 = .ok (.ireturn, 1) := by decide +kernel
theorem dX10_curve_148 : decode cX10_curve 148 = .ok (.iconst 0, 1) := by decide +kernel
theorem dX10_curve_149 : decode cX10_curve 149 = .ok (.istore 4, 2) := by decide +kernel
theorem dX10_curve_151 : decode cX10_curve 151 = .ok (.iload 4, 2) := by decide +kernel
theorem dX10_curve_153 : decode cX10_curve 153 = .ok (.sipush 760, 3) := by decide +kernel
theorem dX10_curve_156 : decode cX10_curve 156 = .ok (.if_icmp .ge 47, 3) := by decide +kernel
theorem dX10_curve_159 : decode cX10_curve 159 = .ok (.aload_n 0, 1) := by decide +kernel
theorem dX10_curve_160 : decode cX10_curve 160 = .ok (.getfield 39, 3) := by decide +kernel
theorem dX10_curve_163 : decode cX10_curve 163 = .ok (.iload 4, 2) := by decide +kernel
theorem dX10_curve_165 : decode cX10_curve 165 = .ok (.iload 4, 2) := by decide +kernel
theorem dX10_curve_167 : decode cX10_curve 167 = .ok (.aload_n 0, 1) := by decide +kernel
theorem dX10_curve_168 : decode cX10_curve 168 = .ok (.getfield 76, 3) := by decide +kernel
theorem dX10_curve_171 : decode cX10_curve 171 = .ok (.if_icmp .ge 13, 3) := by decide +kernel
theorem dX10_curve_174 : decode cX10_curve 174 = .ok (.aload_n 0, 1) := by decide +kernel
theorem dX10_curve_175 : decode cX10_curve 175 = .ok (.getfield 26, 3) := by decide +kernel
theorem dX10_curve_178 : decode cX10_curve 178 = .ok (.iload 4, 2) := by decide +kernel
theorem dX10_curve_180 : decode cX10_curve 180 = .ok (.laload, 1) := by decide +kernel
theorem dX10_curve_181 : decode cX10_curve 181 = .ok (.goto 15, 3) := by decide +kernel
theorem dX10_curve_184 : decode cX10_curve 184 = .ok (.aload_n 0, 1) := by decide +kernel
theorem dX10_curve_185 : decode cX10_curve 185 = .ok (.getfield 39, 3) := by decide +kernel
theorem dX10_curve_188 : decode cX10_curve 188 = .ok (.iload 4, 2) := by decide +kernel
theorem dX10_curve_190 : decode cX10_curve 190 = .ok (.iload_n 1, 1) := by decide +kernel
theorem dX10_curve_191 : decode cX10_curve 191 = .ok (.isub, 1) := by decide +kernel
theorem dX10_curve_192 : decode cX10_curve 192 = .ok (.laload, 1) := by decide +kernel
theorem dX10_curve_193 : decode cX10_curve 193 = .ok (.iload_n 2, 1) := by decide +kernel
theorem dX10_curve_194 : decode cX10_curve 194 = .ok (.i2l, 1) := by decide +kernel
theorem dX10_curve_195 : decode cX10_curve 195 = .ok (.ladd, 1) := by decide +kernel
theorem dX10_curve_196 : decode cX10_curve 196 = .ok (.lastore, 1) := by decide +kernel
theorem dX10_curve_197 : decode cX10_curve 197 = .ok (.iinc 4 1, 3) := by decide +kernel
theorem dX10_curve_200 : decode cX10_curve 200 = .ok (.goto (-49), 3) := by decide +kernel
theorem dX10_curve_203 : decode cX10_curve 203 = .ok (.aload_n 0, 1) := by decide +kernel
theorem dX10_curve_204 : decode cX10_curve 204 = .ok (.iload_n 1, 1) := by decide +kernel
theorem dX10_curve_205 : decode cX10_curve 205 = .ok (.iload_n 2, 1) := by decide +kernel
theorem dX10_curve_206 : decode cX10_curve 206 = .ok (.i2l, 1) := by decide +kernel
theorem dX10_curve_207 : decode cX10_curve 207 = .ok (.invokevirtual 87, 3) := by decide +kernel
theorem dX10_curve_210 : decode cX10_curve 210 = .ok (.istore 4, 2) := by decide +kernel
theorem dX10_curve_212 : decode cX10_curve 212 = .ok (.aload_n 0, 1) := by decide +kernel
theorem dX10_curve_213 : decode cX10_curve 213 = .ok (.iload 4, 2) := by decide +kernel
theorem dX10_curve_215 : decode cX10_curve 215 = .ok (.ifCond .lt 7, 3) := by decide +kernel
theorem dX10_curve_218 : decode cX10_curve 218 = .ok (.iconst 0, 1) := by decide +kernel
theorem dX10_curve_219 : decode cX10_curve 219 = .ok (.goto 7, 3) := by decide +kernel
theorem dX10_curve_222 : decode cX10_curve 222 = .ok (.aload_n 0, 1) := by decide +kernel
theorem dX10_curve_223 : decode cX10_curve 223 = .ok (.getfield 76, 3) := by decide +kernel
theorem dX10_curve_226 : decode cX10_curve 226 = .ok (.putfield 76, 3) := by decide +kernel
theorem dX10_curve_229 : decode cX10_curve 229 = .ok (.iload 4, 2) := by decide +kernel
theorem dX10_curve_231 : decode cX10_curve 231 = .ok (.ireturn, 1) := by decide +kernel
theorem dX10_ray_0 : decode cX10_ray 0 = .ok (.iload_n 1, 1) := by decide +kernel
theorem dX10_ray_1 : decode cX10_ray 1 = .ok (.i2l, 1) := by decide +kernel
theorem dX10_ray_2 : decode cX10_ray 2 = .ok (.lconst 0, 1) := by decide +kernel
theorem dX10_ray_3 : decode cX10_ray 3 = .ok (.ldc2_w 62, 3) := by decide +kernel
theorem dX10_ray_6 : decode cX10_ray 6 = .ok (.invokestatic 50, 3) := by decide +kernel
theorem dX10_ray_9 : decode cX10_ray 9 = .ok (.ifCond .ne 9, 3) := by decide +kernel
theorem dX10_ray_12 : decode cX10_ray 12 = .ok (.aload_n 0, 1) := by decide +kernel
theorem dX10_ray_13 : decode cX10_ray 13 = .ok (.iconst (-1), 1) := by decide +kernel
theorem dX10_ray_14 : decode cX10_ray 14 = .ok (.invokevirtual 58, 3) := by decide +kernel
theorem dX10_ray_17 : decode cX10_ray 17 = .ok (.ireturn, 1) := by decide +kernel
theorem dX10_ray_18 : decode cX10_ray 18 = .ok (.aload_n 0, 1) := by decide +kernel
theorem dX10_ray_19 : decode cX10_ray 19 = .ok (.getfield 47, 3) := by decide +kernel
theorem dX10_ray_22 : decode cX10_ray 22 = .ok (.bipush 60, 2) := by decide +kernel
theorem dX10_ray_24 : decode cX10_ray 24 = .ok (.if_icmp .ne 10, 3) := by decide +kernel
theorem dX10_ray_27 : decode cX10_ray 27 = .ok (.aload_n 0, 1) := by decide +kernel
theorem dX10_ray_28 : decode cX10_ray 28 = .ok (.bipush (-3), 2) := by decide +kernel
theorem dX10_ray_30 : decode cX10_ray 30 = .ok (.invokevirtual 58, 3) := by decide +kernel
theorem dX10_ray_33 : decode cX10_ray 33 = .ok (.ireturn, 1) := by decide +kernel
theorem dX10_ray_34 : decode cX10_ray 34 = .ok (.iconst 0, 1) := by decide +kernel
theorem dX10_ray_35 : decode cX10_ray 35 = .ok (.istore_n 2, 1) := by decide +kernel
theorem dX10_ray_36 : decode cX10_ray 36 = .ok (.iload_n 2, 1) := by decide +kernel
theorem dX10_ray_37 : decode cX10_ray 37 = .ok (.sipush 760, 3) := by decide +kernel
theorem dX10_ray_40 : decode cX10_ray 40 = .ok (.if_icmp .ge 20, 3) := by decide +kernel
theorem dX10_ray_43 : decode cX10_ray 43 = .ok (.aload_n 0, 1) := by decide +kernel
theorem dX10_ray_44 : decode cX10_ray 44 = .ok (.getfield 39, 3) := by decide +kernel
theorem dX10_ray_47 : decode cX10_ray 47 = .ok (.iload_n 2, 1) := by decide +kernel
theorem dX10_ray_48 : decode cX10_ray 48 = .ok (.iload_n 1, 1) := by decide +kernel
theorem dX10_ray_49 : decode cX10_ray 49 = .ok (.i2l, 1) := by decide +kernel
theorem dX10_ray_50 : decode cX10_ray 50 = .ok (.iload_n 2, 1) := by decide +kernel
theorem dX10_ray_51 : decode cX10_ray 51 = .ok (.i2l, 1) := by decide +kernel
theorem dX10_ray_52 : decode cX10_ray 52 = .ok (.lmul, 1) := by decide +kernel
theorem dX10_ray_53 : decode cX10_ray 53 = .ok (.lastore, 1) := by decide +kernel
theorem dX10_ray_54 : decode cX10_ray 54 = .ok (.iinc 2 1, 3) := by decide +kernel
theorem dX10_ray_57 : decode cX10_ray 57 = .ok (.goto (-21), 3) := by decide +kernel
theorem dX10_ray_60 : decode cX10_ray 60 = .ok (.aload_n 0, 1) := by decide +kernel
theorem dX10_ray_61 : decode cX10_ray 61 = .ok (.iconst 1, 1) := by decide +kernel
theorem dX10_ray_62 : decode cX10_ray 62 = .ok (.iload_n 1, 1) := by decide +kernel
theorem dX10_ray_63 : decode cX10_ray 63 = .ok (.i2l, 1) := by decide +kernel
theorem dX10_ray_64 : decode cX10_ray 64 = .ok (.invokevirtual 87, 3) := by decide +kernel
theorem dX10_ray_67 : decode cX10_ray 67 = .ok (.ireturn, 1) := by decide +kernel
theorem dX10_divisor_0 : decode cX10_divisor 0 = .ok (.iload_n 0, 1) := by decide +kernel
theorem dX10_divisor_1 : decode cX10_divisor 1 = .ok (.istore_n 2, 1) := by decide +kernel
theorem dX10_divisor_2 : decode cX10_divisor 2 = .ok (.iload_n 1, 1) := by decide +kernel
theorem dX10_divisor_3 : decode cX10_divisor 3 = .ok (.istore_n 3, 1) := by decide +kernel
theorem dX10_divisor_4 : decode cX10_divisor 4 = .ok (.iload_n 3, 1) := by decide +kernel
theorem dX10_divisor_5 : decode cX10_divisor 5 = .ok (.ifCond .le 16, 3) := by decide +kernel
theorem dX10_divisor_8 : decode cX10_divisor 8 = .ok (.iload_n 2, 1) := by decide +kernel
theorem dX10_divisor_9 : decode cX10_divisor 9 = .ok (.iload_n 3, 1) := by decide +kernel
theorem dX10_divisor_10 : decode cX10_divisor 10 = .ok (.irem, 1) := by decide +kernel
theorem dX10_divisor_11 : decode cX10_divisor 11 = .ok (.istore 4, 2) := by decide +kernel
theorem dX10_divisor_13 : decode cX10_divisor 13 = .ok (.iload_n 3, 1) := by decide +kernel
theorem dX10_divisor_14 : decode cX10_divisor 14 = .ok (.istore_n 2, 1) := by decide +kernel
theorem dX10_divisor_15 : decode cX10_divisor 15 = .ok (.iload 4, 2) := by decide +kernel
theorem dX10_divisor_17 : decode cX10_divisor 17 = .ok (.istore_n 3, 1) := by decide +kernel
theorem dX10_divisor_18 : decode cX10_divisor 18 = .ok (.goto (-14), 3) := by decide +kernel
theorem dX10_divisor_21 : decode cX10_divisor 21 = .ok (.iload_n 2, 1) := by decide +kernel
theorem dX10_divisor_22 : decode cX10_divisor 22 = .ok (.ireturn, 1) := by decide +kernel
theorem dX10_together_0 : decode cX10_together 0 = .ok (.aload_n 0, 1) := by decide +kernel
theorem dX10_together_1 : decode cX10_together 1 = .ok (.getfield 13, 3) := by decide +kernel
theorem dX10_together_4 : decode cX10_together 4 = .ok (.iload_n 1, 1) := by decide +kernel
theorem dX10_together_5 : decode cX10_together 5 = .ok (.iaload, 1) := by decide +kernel
theorem dX10_together_6 : decode cX10_together 6 = .ok (.aload_n 0, 1) := by decide +kernel
theorem dX10_together_7 : decode cX10_together 7 = .ok (.getfield 13, 3) := by decide +kernel
theorem dX10_together_10 : decode cX10_together 10 = .ok (.iload_n 1, 1) := by decide +kernel
theorem dX10_together_11 : decode cX10_together 11 = .ok (.iaload, 1) := by decide +kernel
theorem dX10_together_12 : decode cX10_together 12 = .ok (.aload_n 0, 1) := by decide +kernel
theorem dX10_together_13 : decode cX10_together 13 = .ok (.getfield 13, 3) := by decide +kernel
theorem dX10_together_16 : decode cX10_together 16 = .ok (.iload_n 2, 1) := by decide +kernel
theorem dX10_together_17 : decode cX10_together 17 = .ok (.iaload, 1) := by decide +kernel
theorem dX10_together_18 : decode cX10_together 18 = .ok (.invokestatic 91, 3) := by decide +kernel
theorem dX10_together_21 : decode cX10_together 21 = .ok (.idiv, 1) := by decide +kernel
theorem dX10_together_22 : decode cX10_together 22 = .ok (.aload_n 0, 1) := by decide +kernel
theorem dX10_together_23 : decode cX10_together 23 = .ok (.getfield 13, 3) := by decide +kernel
theorem dX10_together_26 : decode cX10_together 26 = .ok (.iload_n 2, 1) := by decide +kernel
theorem dX10_together_27 : decode cX10_together 27 = .ok (.iaload, 1) := by decide +kernel
theorem dX10_together_28 : decode cX10_together 28 = .ok (.imul, 1) := by decide +kernel
theorem dX10_together_29 : decode cX10_together 29 = .ok (.ireturn, 1) := by decide +kernel
theorem dX10_gainIn_0 : decode cX10_gainIn 0 = .ok (.aload_n 0, 1) := by decide +kernel
theorem dX10_gainIn_1 : decode cX10_gainIn 1 = .ok (.getfield 16, 3) := by decide +kernel
theorem dX10_gainIn_4 : decode cX10_gainIn 4 = .ok (.iload_n 1, 1) := by decide +kernel
theorem dX10_gainIn_5 : decode cX10_gainIn 5 = .ok (.laload, 1) := by decide +kernel
theorem dX10_gainIn_6 : decode cX10_gainIn 6 = .ok (.iload_n 2, 1) := by decide +kernel
theorem dX10_gainIn_7 : decode cX10_gainIn 7 = .ok (.aload_n 0, 1) := by decide +kernel
theorem dX10_gainIn_8 : decode cX10_gainIn 8 = .ok (.getfield 13, 3) := by decide +kernel
theorem dX10_gainIn_11 : decode cX10_gainIn 11 = .ok (.iload_n 1, 1) := by decide +kernel
theorem dX10_gainIn_12 : decode cX10_gainIn 12 = .ok (.iaload, 1) := by decide +kernel
theorem dX10_gainIn_13 : decode cX10_gainIn 13 = .ok (.idiv, 1) := by decide +kernel
theorem dX10_gainIn_14 : decode cX10_gainIn 14 = .ok (.i2l, 1) := by decide +kernel
theorem dX10_gainIn_15 : decode cX10_gainIn 15 = .ok (.lmul, 1) := by decide +kernel
theorem dX10_gainIn_16 : decode cX10_gainIn 16 = .ok (.lreturn, 1) := by decide +kernel
theorem dX10_least_0 : decode cX10_least 0 = .ok (.aload_n 0, 1) := by decide +kernel
theorem dX10_least_1 : decode cX10_least 1 = .ok (.iload_n 1, 1) := by decide +kernel
theorem dX10_least_2 : decode cX10_least 2 = .ok (.lconst 0, 1) := by decide +kernel
theorem dX10_least_3 : decode cX10_least 3 = .ok (.invokevirtual 95, 3) := by decide +kernel
theorem dX10_least_6 : decode cX10_least 6 = .ok (.aload_n 0, 1) := by decide +kernel
theorem dX10_least_7 : decode cX10_least 7 = .ok (.iload_n 2, 1) := by decide +kernel
theorem dX10_least_8 : decode cX10_least 8 = .ok (.iload_n 3, 1) := by decide +kernel
theorem dX10_least_9 : decode cX10_least 9 = .ok (.i2l, 1) := by decide +kernel
theorem dX10_least_10 : decode cX10_least 10 = .ok (.invokevirtual 95, 3) := by decide +kernel
theorem dX10_least_13 : decode cX10_least 13 = .ok (.ladd, 1) := by decide +kernel
theorem dX10_least_14 : decode cX10_least 14 = .ok (.lstore 4, 2) := by decide +kernel
theorem dX10_least_16 : decode cX10_least 16 = .ok (.iconst 1, 1) := by decide +kernel
theorem dX10_least_17 : decode cX10_least 17 = .ok (.istore 6, 2) := by decide +kernel
theorem dX10_least_19 : decode cX10_least 19 = .ok (.iload 6, 2) := by decide +kernel
theorem dX10_least_21 : decode cX10_least 21 = .ok (.iload_n 3, 1) := by decide +kernel
theorem dX10_least_22 : decode cX10_least 22 = .ok (.if_icmp .gt 47, 3) := by decide +kernel
theorem dX10_least_25 : decode cX10_least 25 = .ok (.aload_n 0, 1) := by decide +kernel
theorem dX10_least_26 : decode cX10_least 26 = .ok (.iload_n 1, 1) := by decide +kernel
theorem dX10_least_27 : decode cX10_least 27 = .ok (.iload 6, 2) := by decide +kernel
theorem dX10_least_29 : decode cX10_least 29 = .ok (.i2l, 1) := by decide +kernel
theorem dX10_least_30 : decode cX10_least 30 = .ok (.invokevirtual 95, 3) := by decide +kernel
theorem dX10_least_33 : decode cX10_least 33 = .ok (.aload_n 0, 1) := by decide +kernel
theorem dX10_least_34 : decode cX10_least 34 = .ok (.iload_n 2, 1) := by decide +kernel
theorem dX10_least_35 : decode cX10_least 35 = .ok (.iload_n 3, 1) := by decide +kernel
theorem dX10_least_36 : decode cX10_least 36 = .ok (.iload 6, 2) := by decide +kernel
theorem dX10_least_38 : decode cX10_least 38 = .ok (.isub, 1) := by decide +kernel
theorem dX10_least_39 : decode cX10_least 39 = .ok (.i2l, 1) := by decide +kernel
theorem dX10_least_40 : decode cX10_least 40 = .ok (.invokevirtual 95, 3) := by decide +kernel
theorem dX10_least_43 : decode cX10_least 43 = .ok (.ladd, 1) := by decide +kernel
theorem dX10_least_44 : decode cX10_least 44 = .ok (.lstore 7, 2) := by decide +kernel
theorem dX10_least_46 : decode cX10_least 46 = .ok (.lload 7, 2) := by decide +kernel
theorem dX10_least_48 : decode cX10_least 48 = .ok (.lload 4, 2) := by decide +kernel
theorem dX10_least_50 : decode cX10_least 50 = .ok (.lcmp, 1) := by decide +kernel
theorem dX10_least_51 : decode cX10_least 51 = .ok (.ifCond .ge 8, 3) := by decide +kernel
theorem dX10_least_54 : decode cX10_least 54 = .ok (.lload 7, 2) := by decide +kernel
theorem dX10_least_56 : decode cX10_least 56 = .ok (.goto 5, 3) := by decide +kernel
theorem dX10_least_59 : decode cX10_least 59 = .ok (.lload 4, 2) := by decide +kernel
theorem dX10_least_61 : decode cX10_least 61 = .ok (.lstore 4, 2) := by decide +kernel
theorem dX10_least_63 : decode cX10_least 63 = .ok (.iinc 6 1, 3) := by decide +kernel
theorem dX10_least_66 : decode cX10_least 66 = .ok (.goto (-47), 3) := by decide +kernel
theorem dX10_least_69 : decode cX10_least 69 = .ok (.lload 4, 2) := by decide +kernel
theorem dX10_least_71 : decode cX10_least 71 = .ok (.lreturn, 1) := by decide +kernel
theorem dX10_most_0 : decode cX10_most 0 = .ok (.aload_n 0, 1) := by decide +kernel
theorem dX10_most_1 : decode cX10_most 1 = .ok (.getfield 7, 3) := by decide +kernel
theorem dX10_most_4 : decode cX10_most 4 = .ok (.iload_n 1, 1) := by decide +kernel
theorem dX10_most_5 : decode cX10_most 5 = .ok (.iaload, 1) := by decide +kernel
theorem dX10_most_6 : decode cX10_most 6 = .ok (.aload_n 0, 1) := by decide +kernel
theorem dX10_most_7 : decode cX10_most 7 = .ok (.getfield 7, 3) := by decide +kernel
theorem dX10_most_10 : decode cX10_most 10 = .ok (.iload_n 2, 1) := by decide +kernel
theorem dX10_most_11 : decode cX10_most 11 = .ok (.iaload, 1) := by decide +kernel
theorem dX10_most_12 : decode cX10_most 12 = .ok (.if_icmp .le 12, 3) := by decide +kernel
theorem dX10_most_15 : decode cX10_most 15 = .ok (.aload_n 0, 1) := by decide +kernel
theorem dX10_most_16 : decode cX10_most 16 = .ok (.getfield 7, 3) := by decide +kernel
theorem dX10_most_19 : decode cX10_most 19 = .ok (.iload_n 1, 1) := by decide +kernel
theorem dX10_most_20 : decode cX10_most 20 = .ok (.iaload, 1) := by decide +kernel
theorem dX10_most_21 : decode cX10_most 21 = .ok (.goto 9, 3) := by decide +kernel
theorem dX10_most_24 : decode cX10_most 24 = .ok (.aload_n 0, 1) := by decide +kernel
theorem dX10_most_25 : decode cX10_most 25 = .ok (.getfield 7, 3) := by decide +kernel
theorem dX10_most_28 : decode cX10_most 28 = .ok (.iload_n 2, 1) := by decide +kernel
theorem dX10_most_29 : decode cX10_most 29 = .ok (.iaload, 1) := by decide +kernel
theorem dX10_most_30 : decode cX10_most 30 = .ok (.iload 4, 2) := by decide +kernel
theorem dX10_most_32 : decode cX10_most 32 = .ok (.iadd, 1) := by decide +kernel
theorem dX10_most_33 : decode cX10_most 33 = .ok (.istore 5, 2) := by decide +kernel
theorem dX10_most_35 : decode cX10_most 35 = .ok (.lconst 0, 1) := by decide +kernel
theorem dX10_most_36 : decode cX10_most 36 = .ok (.lstore 6, 2) := by decide +kernel
theorem dX10_most_38 : decode cX10_most 38 = .ok (.iconst 0, 1) := by decide +kernel
theorem dX10_most_39 : decode cX10_most 39 = .ok (.istore 8, 2) := by decide +kernel
theorem dX10_most_41 : decode cX10_most 41 = .ok (.iload 8, 2) := by decide +kernel
theorem dX10_most_43 : decode cX10_most 43 = .ok (.iload 5, 2) := by decide +kernel
theorem dX10_most_45 : decode cX10_most 45 = .ok (.if_icmp .ge 47, 3) := by decide +kernel
theorem dX10_most_48 : decode cX10_most 48 = .ok (.aload_n 0, 1) := by decide +kernel
theorem dX10_most_49 : decode cX10_most 49 = .ok (.iload_n 1, 1) := by decide +kernel
theorem dX10_most_50 : decode cX10_most 50 = .ok (.iload_n 3, 1) := by decide +kernel
theorem dX10_most_51 : decode cX10_most 51 = .ok (.iload 8, 2) := by decide +kernel
theorem dX10_most_53 : decode cX10_most 53 = .ok (.iadd, 1) := by decide +kernel
theorem dX10_most_54 : decode cX10_most 54 = .ok (.i2l, 1) := by decide +kernel
theorem dX10_most_55 : decode cX10_most 55 = .ok (.invokevirtual 95, 3) := by decide +kernel
theorem dX10_most_58 : decode cX10_most 58 = .ok (.aload_n 0, 1) := by decide +kernel
theorem dX10_most_59 : decode cX10_most 59 = .ok (.iload_n 2, 1) := by decide +kernel
theorem dX10_most_60 : decode cX10_most 60 = .ok (.iload 8, 2) := by decide +kernel
theorem dX10_most_62 : decode cX10_most 62 = .ok (.i2l, 1) := by decide +kernel
theorem dX10_most_63 : decode cX10_most 63 = .ok (.invokevirtual 95, 3) := by decide +kernel
theorem dX10_most_66 : decode cX10_most 66 = .ok (.lsub, 1) := by decide +kernel
theorem dX10_most_67 : decode cX10_most 67 = .ok (.lstore 9, 2) := by decide +kernel
theorem dX10_most_69 : decode cX10_most 69 = .ok (.lload 9, 2) := by decide +kernel
theorem dX10_most_71 : decode cX10_most 71 = .ok (.lload 6, 2) := by decide +kernel
theorem dX10_most_73 : decode cX10_most 73 = .ok (.lcmp, 1) := by decide +kernel
theorem dX10_most_74 : decode cX10_most 74 = .ok (.ifCond .le 8, 3) := by decide +kernel
theorem dX10_most_77 : decode cX10_most 77 = .ok (.lload 9, 2) := by decide +kernel
theorem dX10_most_79 : decode cX10_most 79 = .ok (.goto 5, 3) := by decide +kernel
theorem dX10_most_82 : decode cX10_most 82 = .ok (.lload 6, 2) := by decide +kernel
theorem dX10_most_84 : decode cX10_most 84 = .ok (.lstore 6, 2) := by decide +kernel
theorem dX10_most_86 : decode cX10_most 86 = .ok (.iinc 8 1, 3) := by decide +kernel
theorem dX10_most_89 : decode cX10_most 89 = .ok (.goto (-48), 3) := by decide +kernel
theorem dX10_most_92 : decode cX10_most 92 = .ok (.lload 6, 2) := by decide +kernel
theorem dX10_most_94 : decode cX10_most 94 = .ok (.lreturn, 1) := by decide +kernel
theorem dX10_make_0 : decode cX10_make 0 = .ok (.lconst 0, 1) := by decide +kernel
theorem dX10_make_1 : decode cX10_make 1 = .ok (.lstore 5, 2) := by decide +kernel
theorem dX10_make_3 : decode cX10_make 3 = .ok (.iconst 0, 1) := by decide +kernel
theorem dX10_make_4 : decode cX10_make 4 = .ok (.istore 7, 2) := by decide +kernel
theorem dX10_make_6 : decode cX10_make 6 = .ok (.iload 7, 2) := by decide +kernel
theorem dX10_make_8 : decode cX10_make 8 = .ok (.sipush 760, 3) := by decide +kernel
theorem dX10_make_11 : decode cX10_make 11 = .ok (.if_icmp .ge 153, 3) := by decide +kernel
theorem dX10_make_14 : decode cX10_make 14 = .ok (.aload_n 0, 1) := by decide +kernel
theorem dX10_make_15 : decode cX10_make 15 = .ok (.iload_n 2, 1) := by decide +kernel
theorem dX10_make_16 : decode cX10_make 16 = .ok (.iload 7, 2) := by decide +kernel
theorem dX10_make_18 : decode cX10_make 18 = .ok (.i2l, 1) := by decide +kernel
theorem dX10_make_19 : decode cX10_make 19 = .ok (.invokevirtual 95, 3) := by decide +kernel
theorem dX10_make_22 : decode cX10_make 22 = .ok (.lstore 8, 2) := by decide +kernel
theorem dX10_make_24 : decode cX10_make 24 = .ok (.aload_n 0, 1) := by decide +kernel
theorem dX10_make_25 : decode cX10_make 25 = .ok (.iload_n 3, 1) := by decide +kernel
theorem dX10_make_26 : decode cX10_make 26 = .ok (.iload 7, 2) := by decide +kernel
theorem dX10_make_28 : decode cX10_make 28 = .ok (.i2l, 1) := by decide +kernel
theorem dX10_make_29 : decode cX10_make 29 = .ok (.invokevirtual 95, 3) := by decide +kernel
theorem dX10_make_32 : decode cX10_make 32 = .ok (.lstore 10, 2) := by decide +kernel
theorem dX10_make_34 : decode cX10_make 34 = .ok (.lload 8, 2) := by decide +kernel
theorem dX10_make_36 : decode cX10_make 36 = .ok (.lload 10, 2) := by decide +kernel
theorem dX10_make_38 : decode cX10_make 38 = .ok (.lsub, 1) := by decide +kernel
theorem dX10_make_39 : decode cX10_make 39 = .ok (.lload 5, 2) := by decide +kernel
theorem dX10_make_41 : decode cX10_make 41 = .ok (.lcmp, 1) := by decide +kernel
theorem dX10_make_42 : decode cX10_make 42 = .ok (.ifCond .le 11, 3) := by decide +kernel
theorem dX10_make_45 : decode cX10_make 45 = .ok (.lload 8, 2) := by decide +kernel
theorem dX10_make_47 : decode cX10_make 47 = .ok (.lload 10, 2) := by decide +kernel
theorem dX10_make_49 : decode cX10_make 49 = .ok (.lsub, 1) := by decide +kernel
theorem dX10_make_50 : decode cX10_make 50 = .ok (.goto 5, 3) := by decide +kernel
theorem dX10_make_53 : decode cX10_make 53 = .ok (.lload 5, 2) := by decide +kernel
theorem dX10_make_55 : decode cX10_make 55 = .ok (.lstore 5, 2) := by decide +kernel
theorem dX10_make_57 : decode cX10_make 57 = .ok (.aload_n 0, 1) := by decide +kernel
theorem dX10_make_58 : decode cX10_make 58 = .ok (.getfield 39, 3) := by decide +kernel
theorem dX10_make_61 : decode cX10_make 61 = .ok (.iload 7, 2) := by decide +kernel
theorem dX10_make_63 : decode cX10_make 63 = .ok (.iload_n 1, 1) := by decide +kernel
theorem dX10_make_64 : decode cX10_make 64 = .ok (.ifCond .ne 11, 3) := by decide +kernel
theorem dX10_make_67 : decode cX10_make 67 = .ok (.lload 8, 2) := by decide +kernel
theorem dX10_make_69 : decode cX10_make 69 = .ok (.lload 10, 2) := by decide +kernel
theorem dX10_make_71 : decode cX10_make 71 = .ok (.ladd, 1) := by decide +kernel
theorem dX10_make_72 : decode cX10_make 72 = .ok (.goto 85, 3) := by decide +kernel
theorem dX10_make_75 : decode cX10_make 75 = .ok (.iload_n 1, 1) := by decide +kernel
theorem dX10_make_76 : decode cX10_make 76 = .ok (.iconst 1, 1) := by decide +kernel
theorem dX10_make_77 : decode cX10_make 77 = .ok (.if_icmp .ne 21, 3) := by decide +kernel
theorem dX10_make_80 : decode cX10_make 80 = .ok (.lload 8, 2) := by decide +kernel
theorem dX10_make_82 : decode cX10_make 82 = .ok (.lload 10, 2) := by decide +kernel
theorem dX10_make_84 : decode cX10_make 84 = .ok (.lcmp, 1) := by decide +kernel
theorem dX10_make_85 : decode cX10_make 85 = .ok (.ifCond .ge 8, 3) := by decide +kernel
theorem dX10_make_88 : decode cX10_make 88 = .ok (.lload 8, 2) := by decide +kernel
theorem dX10_make_90 : decode cX10_make 90 = .ok (.goto 67, 3) := by decide +kernel
theorem dX10_make_93 : decode cX10_make 93 = .ok (.lload 10, 2) := by decide +kernel
theorem dX10_make_95 : decode cX10_make 95 = .ok (.goto 62, 3) := by decide +kernel
theorem dX10_make_98 : decode cX10_make 98 = .ok (.iload_n 1, 1) := by decide +kernel
theorem dX10_make_99 : decode cX10_make 99 = .ok (.iconst 2, 1) := by decide +kernel
theorem dX10_make_100 : decode cX10_make 100 = .ok (.if_icmp .ne 21, 3) := by decide +kernel
theorem dX10_make_103 : decode cX10_make 103 = .ok (.lload 8, 2) := by decide +kernel
theorem dX10_make_105 : decode cX10_make 105 = .ok (.lload 10, 2) := by decide +kernel
theorem dX10_make_107 : decode cX10_make 107 = .ok (.lcmp, 1) := by decide +kernel
theorem dX10_make_108 : decode cX10_make 108 = .ok (.ifCond .le 8, 3) := by decide +kernel
theorem dX10_make_111 : decode cX10_make 111 = .ok (.lload 8, 2) := by decide +kernel
theorem dX10_make_113 : decode cX10_make 113 = .ok (.goto 44, 3) := by decide +kernel
theorem dX10_make_116 : decode cX10_make 116 = .ok (.lload 10, 2) := by decide +kernel
theorem dX10_make_118 : decode cX10_make 118 = .ok (.goto 39, 3) := by decide +kernel
theorem dX10_make_121 : decode cX10_make 121 = .ok (.iload_n 1, 1) := by decide +kernel
theorem dX10_make_122 : decode cX10_make 122 = .ok (.iconst 3, 1) := by decide +kernel
theorem dX10_make_123 : decode cX10_make 123 = .ok (.if_icmp .ne 8, 3) := by decide +kernel
theorem dX10_make_126 : decode cX10_make 126 = .ok (.lload 5, 2) := by decide +kernel
theorem dX10_make_128 : decode cX10_make 128 = .ok (.goto 29, 3) := by decide +kernel
theorem dX10_make_131 : decode cX10_make 131 = .ok (.iload_n 1, 1) := by decide +kernel
theorem dX10_make_132 : decode cX10_make 132 = .ok (.iconst 4, 1) := by decide +kernel
theorem dX10_make_133 : decode cX10_make 133 = .ok (.if_icmp .ne 14, 3) := by decide +kernel
theorem dX10_make_136 : decode cX10_make 136 = .ok (.aload_n 0, 1) := by decide +kernel
theorem dX10_make_137 : decode cX10_make 137 = .ok (.iload_n 2, 1) := by decide +kernel
theorem dX10_make_138 : decode cX10_make 138 = .ok (.iload_n 3, 1) := by decide +kernel
theorem dX10_make_139 : decode cX10_make 139 = .ok (.iload 7, 2) := by decide +kernel
theorem dX10_make_141 : decode cX10_make 141 = .ok (.invokevirtual 99, 3) := by decide +kernel
theorem dX10_make_144 : decode cX10_make 144 = .ok (.goto 13, 3) := by decide +kernel
theorem dX10_make_147 : decode cX10_make 147 = .ok (.aload_n 0, 1) := by decide +kernel
theorem dX10_make_148 : decode cX10_make 148 = .ok (.iload_n 2, 1) := by decide +kernel
theorem dX10_make_149 : decode cX10_make 149 = .ok (.iload_n 3, 1) := by decide +kernel
theorem dX10_make_150 : decode cX10_make 150 = .ok (.iload 7, 2) := by decide +kernel
theorem dX10_make_152 : decode cX10_make 152 = .ok (.iload 4, 2) := by decide +kernel
theorem dX10_make_154 : decode cX10_make 154 = .ok (.invokevirtual 103, 3) := by decide +kernel
theorem dX10_make_157 : decode cX10_make 157 = .ok (.lastore, 1) := by decide +kernel
theorem dX10_make_158 : decode cX10_make 158 = .ok (.iinc 7 1, 3) := by decide +kernel
theorem dX10_make_161 : decode cX10_make 161 = .ok (.goto (-155), 3) := by decide +kernel
theorem dX10_make_164 : decode cX10_make 164 = .ok (.return_, 1) := by decide +kernel
theorem dX10_of_0 : decode cX10_of 0 = .ok (.iload_n 1, 1) := by decide +kernel
theorem dX10_of_1 : decode cX10_of 1 = .ok (.i2l, 1) := by decide +kernel
theorem dX10_of_2 : decode cX10_of 2 = .ok (.lconst 0, 1) := by decide +kernel
theorem dX10_of_3 : decode cX10_of 3 = .ok (.ldc2_w 107, 3) := by decide +kernel
theorem dX10_of_6 : decode cX10_of 6 = .ok (.invokestatic 50, 3) := by decide +kernel
theorem dX10_of_9 : decode cX10_of 9 = .ok (.ifCond .eq 19, 3) := by decide +kernel
theorem dX10_of_12 : decode cX10_of 12 = .ok (.aload_n 0, 1) := by decide +kernel
theorem dX10_of_13 : decode cX10_of 13 = .ok (.iload_n 2, 1) := by decide +kernel
theorem dX10_of_14 : decode cX10_of 14 = .ok (.invokevirtual 109, 3) := by decide +kernel
theorem dX10_of_17 : decode cX10_of 17 = .ok (.ifCond .eq 11, 3) := by decide +kernel
theorem dX10_of_20 : decode cX10_of 20 = .ok (.aload_n 0, 1) := by decide +kernel
theorem dX10_of_21 : decode cX10_of 21 = .ok (.iload_n 3, 1) := by decide +kernel
theorem dX10_of_22 : decode cX10_of 22 = .ok (.invokevirtual 109, 3) := by decide +kernel
theorem dX10_of_25 : decode cX10_of 25 = .ok (.ifCond .ne 9, 3) := by decide +kernel
theorem dX10_of_28 : decode cX10_of 28 = .ok (.aload_n 0, 1) := by decide +kernel
theorem dX10_of_29 : decode cX10_of 29 = .ok (.iconst (-1), 1) := by decide +kernel
theorem dX10_of_30 : decode cX10_of 30 = .ok (.invokevirtual 58, 3) := by decide +kernel
theorem dX10_of_33 : decode cX10_of 33 = .ok (.ireturn, 1) := by decide +kernel
theorem dX10_of_34 : decode cX10_of 34 = .ok (.aload_n 0, 1) := by decide +kernel
theorem dX10_of_35 : decode cX10_of 35 = .ok (.getfield 47, 3) := by decide +kernel
theorem dX10_of_38 : decode cX10_of 38 = .ok (.bipush 60, 2) := by decide +kernel
theorem dX10_of_40 : decode cX10_of 40 = .ok (.if_icmp .ne 10, 3) := by decide +kernel
theorem dX10_of_43 : decode cX10_of 43 = .ok (.aload_n 0, 1) := by decide +kernel
theorem dX10_of_44 : decode cX10_of 44 = .ok (.bipush (-3), 2) := by decide +kernel
theorem dX10_of_46 : decode cX10_of 46 = .ok (.invokevirtual 58, 3) := by decide +kernel
theorem dX10_of_49 : decode cX10_of 49 = .ok (.ireturn, 1) := by decide +kernel
theorem dX10_of_50 : decode cX10_of 50 = .ok (.aload_n 0, 1) := by decide +kernel
theorem dX10_of_51 : decode cX10_of 51 = .ok (.iload_n 2, 1) := by decide +kernel
theorem dX10_of_52 : decode cX10_of 52 = .ok (.iload_n 3, 1) := by decide +kernel
theorem dX10_of_53 : decode cX10_of 53 = .ok (.invokevirtual 113, 3) := by decide +kernel
theorem dX10_of_56 : decode cX10_of 56 = .ok (.istore 4, 2) := by decide +kernel
theorem dX10_of_58 : decode cX10_of 58 = .ok (.iload 4, 2) := by decide +kernel
theorem dX10_of_60 : decode cX10_of 60 = .ok (.bipush 60, 2) := by decide +kernel
theorem dX10_of_62 : decode cX10_of 62 = .ok (.if_icmp .le 10, 3) := by decide +kernel
theorem dX10_of_65 : decode cX10_of 65 = .ok (.aload_n 0, 1) := by decide +kernel
theorem dX10_of_66 : decode cX10_of 66 = .ok (.bipush (-4), 2) := by decide +kernel
theorem dX10_of_68 : decode cX10_of 68 = .ok (.invokevirtual 58, 3) := by decide +kernel
theorem dX10_of_71 : decode cX10_of 71 = .ok (.ireturn, 1) := by decide +kernel
theorem dX10_of_72 : decode cX10_of 72 = .ok (.aload_n 0, 1) := by decide +kernel
theorem dX10_of_73 : decode cX10_of 73 = .ok (.iload_n 2, 1) := by decide +kernel
theorem dX10_of_74 : decode cX10_of 74 = .ok (.iload 4, 2) := by decide +kernel
theorem dX10_of_76 : decode cX10_of 76 = .ok (.invokevirtual 116, 3) := by decide +kernel
theorem dX10_of_79 : decode cX10_of 79 = .ok (.lstore 5, 2) := by decide +kernel
theorem dX10_of_81 : decode cX10_of 81 = .ok (.aload_n 0, 1) := by decide +kernel
theorem dX10_of_82 : decode cX10_of 82 = .ok (.iload_n 3, 1) := by decide +kernel
theorem dX10_of_83 : decode cX10_of 83 = .ok (.iload 4, 2) := by decide +kernel
theorem dX10_of_85 : decode cX10_of 85 = .ok (.invokevirtual 116, 3) := by decide +kernel
theorem dX10_of_88 : decode cX10_of 88 = .ok (.lstore 7, 2) := by decide +kernel
theorem dX10_of_90 : decode cX10_of 90 = .ok (.iload_n 1, 1) := by decide +kernel
theorem dX10_of_91 : decode cX10_of 91 = .ok (.iconst 5, 1) := by decide +kernel
theorem dX10_of_92 : decode cX10_of 92 = .ok (.if_icmp .ne 18, 3) := by decide +kernel
theorem dX10_of_95 : decode cX10_of 95 = .ok (.lload 5, 2) := by decide +kernel
theorem dX10_of_97 : decode cX10_of 97 = .ok (.lload 7, 2) := by decide +kernel
theorem dX10_of_99 : decode cX10_of 99 = .ok (.lcmp, 1) := by decide +kernel
theorem dX10_of_100 : decode cX10_of 100 = .ok (.ifCond .le 10, 3) := by decide +kernel
theorem dX10_of_103 : decode cX10_of 103 = .ok (.aload_n 0, 1) := by decide +kernel
theorem dX10_of_104 : decode cX10_of 104 = .ok (.bipush (-5), 2) := by decide +kernel
theorem dX10_of_106 : decode cX10_of 106 = .ok (.invokevirtual 58, 3) := by decide +kernel
theorem dX10_of_109 : decode cX10_of 109 = .ok (.ireturn, 1) := by decide +kernel
theorem dX10_of_110 : decode cX10_of 110 = .ok (.aload_n 0, 1) := by decide +kernel
theorem dX10_of_111 : decode cX10_of 111 = .ok (.iload_n 1, 1) := by decide +kernel
theorem dX10_of_112 : decode cX10_of 112 = .ok (.iload_n 2, 1) := by decide +kernel
theorem dX10_of_113 : decode cX10_of 113 = .ok (.iload_n 3, 1) := by decide +kernel
theorem dX10_of_114 : decode cX10_of 114 = .ok (.iload 4, 2) := by decide +kernel
theorem dX10_of_116 : decode cX10_of 116 = .ok (.invokevirtual 120, 3) := by decide +kernel
theorem dX10_of_119 : decode cX10_of 119 = .ok (.iload_n 1, 1) := by decide +kernel
theorem dX10_of_120 : decode cX10_of 120 = .ok (.ifCond .ne 11, 3) := by decide +kernel
theorem dX10_of_123 : decode cX10_of 123 = .ok (.lload 5, 2) := by decide +kernel
theorem dX10_of_125 : decode cX10_of 125 = .ok (.lload 7, 2) := by decide +kernel
theorem dX10_of_127 : decode cX10_of 127 = .ok (.ladd, 1) := by decide +kernel
theorem dX10_of_128 : decode cX10_of 128 = .ok (.goto 76, 3) := by decide +kernel
theorem dX10_of_131 : decode cX10_of 131 = .ok (.iload_n 1, 1) := by decide +kernel
theorem dX10_of_132 : decode cX10_of 132 = .ok (.iconst 2, 1) := by decide +kernel
theorem dX10_of_133 : decode cX10_of 133 = .ok (.if_icmp .ne 21, 3) := by decide +kernel
theorem dX10_of_136 : decode cX10_of 136 = .ok (.lload 5, 2) := by decide +kernel
theorem dX10_of_138 : decode cX10_of 138 = .ok (.lload 7, 2) := by decide +kernel
theorem dX10_of_140 : decode cX10_of 140 = .ok (.lcmp, 1) := by decide +kernel
theorem dX10_of_141 : decode cX10_of 141 = .ok (.ifCond .le 8, 3) := by decide +kernel
theorem dX10_of_144 : decode cX10_of 144 = .ok (.lload 5, 2) := by decide +kernel
theorem dX10_of_146 : decode cX10_of 146 = .ok (.goto 58, 3) := by decide +kernel
theorem dX10_of_149 : decode cX10_of 149 = .ok (.lload 7, 2) := by decide +kernel
theorem dX10_of_151 : decode cX10_of 151 = .ok (.goto 53, 3) := by decide +kernel
theorem dX10_of_154 : decode cX10_of 154 = .ok (.iload_n 1, 1) := by decide +kernel
theorem dX10_of_155 : decode cX10_of 155 = .ok (.iconst 3, 1) := by decide +kernel
theorem dX10_of_156 : decode cX10_of 156 = .ok (.if_icmp .ne 23, 3) := by decide +kernel
theorem dX10_of_159 : decode cX10_of 159 = .ok (.lload 5, 2) := by decide +kernel
theorem dX10_of_161 : decode cX10_of 161 = .ok (.lload 7, 2) := by decide +kernel
theorem dX10_of_163 : decode cX10_of 163 = .ok (.lcmp, 1) := by decide +kernel
theorem dX10_of_164 : decode cX10_of 164 = .ok (.ifCond .le 11, 3) := by decide +kernel
theorem dX10_of_167 : decode cX10_of 167 = .ok (.lload 5, 2) := by decide +kernel
theorem dX10_of_169 : decode cX10_of 169 = .ok (.lload 7, 2) := by decide +kernel
theorem dX10_of_171 : decode cX10_of 171 = .ok (.lsub, 1) := by decide +kernel
theorem dX10_of_172 : decode cX10_of 172 = .ok (.goto 32, 3) := by decide +kernel
theorem dX10_of_175 : decode cX10_of 175 = .ok (.lconst 0, 1) := by decide +kernel
theorem dX10_of_176 : decode cX10_of 176 = .ok (.goto 28, 3) := by decide +kernel
theorem dX10_of_179 : decode cX10_of 179 = .ok (.iload_n 1, 1) := by decide +kernel
theorem dX10_of_180 : decode cX10_of 180 = .ok (.iconst 5, 1) := by decide +kernel
theorem dX10_of_181 : decode cX10_of 181 = .ok (.if_icmp .ne 8, 3) := by decide +kernel
theorem dX10_of_184 : decode cX10_of 184 = .ok (.lload 5, 2) := by decide +kernel
theorem dX10_of_186 : decode cX10_of 186 = .ok (.goto 18, 3) := by decide +kernel
theorem dX10_of_189 : decode cX10_of 189 = .ok (.lload 5, 2) := by decide +kernel
theorem dX10_of_191 : decode cX10_of 191 = .ok (.lload 7, 2) := by decide +kernel
theorem dX10_of_193 : decode cX10_of 193 = .ok (.lcmp, 1) := by decide +kernel
theorem dX10_of_194 : decode cX10_of 194 = .ok (.ifCond .ge 8, 3) := by decide +kernel
theorem dX10_of_197 : decode cX10_of 197 = .ok (.lload 5, 2) := by decide +kernel
theorem dX10_of_199 : decode cX10_of 199 = .ok (.goto 5, 3) := by decide +kernel
theorem dX10_of_202 : decode cX10_of 202 = .ok (.lload 7, 2) := by decide +kernel
theorem dX10_of_204 : decode cX10_of 204 = .ok (.lstore 9, 2) := by decide +kernel
theorem dX10_of_206 : decode cX10_of 206 = .ok (.aload_n 0, 1) := by decide +kernel
theorem dX10_of_207 : decode cX10_of 207 = .ok (.iload 4, 2) := by decide +kernel
theorem dX10_of_209 : decode cX10_of 209 = .ok (.lload 9, 2) := by decide +kernel
theorem dX10_of_211 : decode cX10_of 211 = .ok (.invokevirtual 87, 3) := by decide +kernel
theorem dX10_of_214 : decode cX10_of 214 = .ok (.ireturn, 1) := by decide +kernel
theorem dX10_times_0 : decode cX10_times 0 = .ok (.aload_n 0, 1) := by decide +kernel
theorem dX10_times_1 : decode cX10_times 1 = .ok (.iload_n 1, 1) := by decide +kernel
theorem dX10_times_2 : decode cX10_times 2 = .ok (.invokevirtual 109, 3) := by decide +kernel
theorem dX10_times_5 : decode cX10_times 5 = .ok (.ifCond .eq 15, 3) := by decide +kernel
theorem dX10_times_8 : decode cX10_times 8 = .ok (.iload_n 2, 1) := by decide +kernel
theorem dX10_times_9 : decode cX10_times 9 = .ok (.i2l, 1) := by decide +kernel
theorem dX10_times_10 : decode cX10_times 10 = .ok (.lconst 0, 1) := by decide +kernel
theorem dX10_times_11 : decode cX10_times 11 = .ok (.ldc2_w 124, 3) := by decide +kernel
theorem dX10_times_14 : decode cX10_times 14 = .ok (.invokestatic 50, 3) := by decide +kernel
theorem dX10_times_17 : decode cX10_times 17 = .ok (.ifCond .ne 9, 3) := by decide +kernel
theorem dX10_times_20 : decode cX10_times 20 = .ok (.aload_n 0, 1) := by decide +kernel
theorem dX10_times_21 : decode cX10_times 21 = .ok (.iconst (-1), 1) := by decide +kernel
theorem dX10_times_22 : decode cX10_times 22 = .ok (.invokevirtual 58, 3) := by decide +kernel
theorem dX10_times_25 : decode cX10_times 25 = .ok (.ireturn, 1) := by decide +kernel
theorem dX10_times_26 : decode cX10_times 26 = .ok (.aload_n 0, 1) := by decide +kernel
theorem dX10_times_27 : decode cX10_times 27 = .ok (.getfield 47, 3) := by decide +kernel
theorem dX10_times_30 : decode cX10_times 30 = .ok (.bipush 60, 2) := by decide +kernel
theorem dX10_times_32 : decode cX10_times 32 = .ok (.if_icmp .ne 10, 3) := by decide +kernel
theorem dX10_times_35 : decode cX10_times 35 = .ok (.aload_n 0, 1) := by decide +kernel
theorem dX10_times_36 : decode cX10_times 36 = .ok (.bipush (-3), 2) := by decide +kernel
theorem dX10_times_38 : decode cX10_times 38 = .ok (.invokevirtual 58, 3) := by decide +kernel
theorem dX10_times_41 : decode cX10_times 41 = .ok (.ireturn, 1) := by decide +kernel
theorem dX10_times_42 : decode cX10_times 42 = .ok (.iconst 0, 1) := by decide +kernel
theorem dX10_times_43 : decode cX10_times 43 = .ok (.istore_n 3, 1) := by decide +kernel
theorem dX10_times_44 : decode cX10_times 44 = .ok (.iload_n 3, 1) := by decide +kernel
theorem dX10_times_45 : decode cX10_times 45 = .ok (.sipush 760, 3) := by decide +kernel
theorem dX10_times_48 : decode cX10_times 48 = .ok (.if_icmp .ge 25, 3) := by decide +kernel
theorem dX10_times_51 : decode cX10_times 51 = .ok (.aload_n 0, 1) := by decide +kernel
theorem dX10_times_52 : decode cX10_times 52 = .ok (.getfield 39, 3) := by decide +kernel
theorem dX10_times_55 : decode cX10_times 55 = .ok (.iload_n 3, 1) := by decide +kernel
theorem dX10_times_56 : decode cX10_times 56 = .ok (.iload_n 2, 1) := by decide +kernel
theorem dX10_times_57 : decode cX10_times 57 = .ok (.i2l, 1) := by decide +kernel
theorem dX10_times_58 : decode cX10_times 58 = .ok (.aload_n 0, 1) := by decide +kernel
theorem dX10_times_59 : decode cX10_times 59 = .ok (.iload_n 1, 1) := by decide +kernel
theorem dX10_times_60 : decode cX10_times 60 = .ok (.iload_n 3, 1) := by decide +kernel
theorem dX10_times_61 : decode cX10_times 61 = .ok (.i2l, 1) := by decide +kernel
theorem dX10_times_62 : decode cX10_times 62 = .ok (.invokevirtual 95, 3) := by decide +kernel
theorem dX10_times_65 : decode cX10_times 65 = .ok (.lmul, 1) := by decide +kernel
theorem dX10_times_66 : decode cX10_times 66 = .ok (.lastore, 1) := by decide +kernel
theorem dX10_times_67 : decode cX10_times 67 = .ok (.iinc 3 1, 3) := by decide +kernel
theorem dX10_times_70 : decode cX10_times 70 = .ok (.goto (-26), 3) := by decide +kernel
theorem dX10_times_73 : decode cX10_times 73 = .ok (.aload_n 0, 1) := by decide +kernel
theorem dX10_times_74 : decode cX10_times 74 = .ok (.aload_n 0, 1) := by decide +kernel
theorem dX10_times_75 : decode cX10_times 75 = .ok (.getfield 13, 3) := by decide +kernel
theorem dX10_times_78 : decode cX10_times 78 = .ok (.iload_n 1, 1) := by decide +kernel
theorem dX10_times_79 : decode cX10_times 79 = .ok (.iaload, 1) := by decide +kernel
theorem dX10_times_80 : decode cX10_times 80 = .ok (.iload_n 2, 1) := by decide +kernel
theorem dX10_times_81 : decode cX10_times 81 = .ok (.i2l, 1) := by decide +kernel
theorem dX10_times_82 : decode cX10_times 82 = .ok (.aload_n 0, 1) := by decide +kernel
theorem dX10_times_83 : decode cX10_times 83 = .ok (.getfield 16, 3) := by decide +kernel
theorem dX10_times_86 : decode cX10_times 86 = .ok (.iload_n 1, 1) := by decide +kernel
theorem dX10_times_87 : decode cX10_times 87 = .ok (.laload, 1) := by decide +kernel
theorem dX10_times_88 : decode cX10_times 88 = .ok (.lmul, 1) := by decide +kernel
theorem dX10_times_89 : decode cX10_times 89 = .ok (.invokevirtual 87, 3) := by decide +kernel
theorem dX10_times_92 : decode cX10_times 92 = .ok (.ireturn, 1) := by decide +kernel
theorem dX10_shift_0 : decode cX10_shift 0 = .ok (.aload_n 0, 1) := by decide +kernel
theorem dX10_shift_1 : decode cX10_shift 1 = .ok (.iload_n 1, 1) := by decide +kernel
theorem dX10_shift_2 : decode cX10_shift 2 = .ok (.invokevirtual 109, 3) := by decide +kernel
theorem dX10_shift_5 : decode cX10_shift 5 = .ok (.ifCond .eq 15, 3) := by decide +kernel
theorem dX10_shift_8 : decode cX10_shift 8 = .ok (.iload_n 2, 1) := by decide +kernel
theorem dX10_shift_9 : decode cX10_shift 9 = .ok (.i2l, 1) := by decide +kernel
theorem dX10_shift_10 : decode cX10_shift 10 = .ok (.lconst 0, 1) := by decide +kernel
theorem dX10_shift_11 : decode cX10_shift 11 = .ok (.ldc2_w 126, 3) := by decide +kernel
theorem dX10_shift_14 : decode cX10_shift 14 = .ok (.invokestatic 50, 3) := by decide +kernel
theorem dX10_shift_17 : decode cX10_shift 17 = .ok (.ifCond .ne 9, 3) := by decide +kernel
theorem dX10_shift_20 : decode cX10_shift 20 = .ok (.aload_n 0, 1) := by decide +kernel
theorem dX10_shift_21 : decode cX10_shift 21 = .ok (.iconst (-1), 1) := by decide +kernel
theorem dX10_shift_22 : decode cX10_shift 22 = .ok (.invokevirtual 58, 3) := by decide +kernel
theorem dX10_shift_25 : decode cX10_shift 25 = .ok (.ireturn, 1) := by decide +kernel
theorem dX10_shift_26 : decode cX10_shift 26 = .ok (.aload_n 0, 1) := by decide +kernel
theorem dX10_shift_27 : decode cX10_shift 27 = .ok (.getfield 47, 3) := by decide +kernel
theorem dX10_shift_30 : decode cX10_shift 30 = .ok (.bipush 60, 2) := by decide +kernel
theorem dX10_shift_32 : decode cX10_shift 32 = .ok (.if_icmp .ne 10, 3) := by decide +kernel
theorem dX10_shift_35 : decode cX10_shift 35 = .ok (.aload_n 0, 1) := by decide +kernel
theorem dX10_shift_36 : decode cX10_shift 36 = .ok (.bipush (-3), 2) := by decide +kernel
theorem dX10_shift_38 : decode cX10_shift 38 = .ok (.invokevirtual 58, 3) := by decide +kernel
theorem dX10_shift_41 : decode cX10_shift 41 = .ok (.ireturn, 1) := by decide +kernel
theorem dX10_shift_42 : decode cX10_shift 42 = .ok (.iconst 0, 1) := by decide +kernel
theorem dX10_shift_43 : decode cX10_shift 43 = .ok (.istore_n 3, 1) := by decide +kernel
theorem dX10_shift_44 : decode cX10_shift 44 = .ok (.iload_n 3, 1) := by decide +kernel
theorem dX10_shift_45 : decode cX10_shift 45 = .ok (.sipush 760, 3) := by decide +kernel
theorem dX10_shift_48 : decode cX10_shift 48 = .ok (.if_icmp .ge 33, 3) := by decide +kernel
theorem dX10_shift_51 : decode cX10_shift 51 = .ok (.aload_n 0, 1) := by decide +kernel
theorem dX10_shift_52 : decode cX10_shift 52 = .ok (.getfield 39, 3) := by decide +kernel
theorem dX10_shift_55 : decode cX10_shift 55 = .ok (.iload_n 3, 1) := by decide +kernel
theorem dX10_shift_56 : decode cX10_shift 56 = .ok (.iload_n 3, 1) := by decide +kernel
theorem dX10_shift_57 : decode cX10_shift 57 = .ok (.iload_n 2, 1) := by decide +kernel
theorem dX10_shift_58 : decode cX10_shift 58 = .ok (.if_icmp .ge 7, 3) := by decide +kernel
theorem dX10_shift_61 : decode cX10_shift 61 = .ok (.lconst 0, 1) := by decide +kernel
theorem dX10_shift_62 : decode cX10_shift 62 = .ok (.goto 12, 3) := by decide +kernel
theorem dX10_shift_65 : decode cX10_shift 65 = .ok (.aload_n 0, 1) := by decide +kernel
theorem dX10_shift_66 : decode cX10_shift 66 = .ok (.iload_n 1, 1) := by decide +kernel
theorem dX10_shift_67 : decode cX10_shift 67 = .ok (.iload_n 3, 1) := by decide +kernel
theorem dX10_shift_68 : decode cX10_shift 68 = .ok (.iload_n 2, 1) := by decide +kernel
theorem dX10_shift_69 : decode cX10_shift 69 = .ok (.isub, 1) := by decide +kernel
theorem dX10_shift_70 : decode cX10_shift 70 = .ok (.i2l, 1) := by decide +kernel
theorem dX10_shift_71 : decode cX10_shift 71 = .ok (.invokevirtual 95, 3) := by decide +kernel
theorem dX10_shift_74 : decode cX10_shift 74 = .ok (.lastore, 1) := by decide +kernel
theorem dX10_shift_75 : decode cX10_shift 75 = .ok (.iinc 3 1, 3) := by decide +kernel
theorem dX10_shift_78 : decode cX10_shift 78 = .ok (.goto (-34), 3) := by decide +kernel
theorem dX10_shift_81 : decode cX10_shift 81 = .ok (.aload_n 0, 1) := by decide +kernel
theorem dX10_shift_82 : decode cX10_shift 82 = .ok (.aload_n 0, 1) := by decide +kernel
theorem dX10_shift_83 : decode cX10_shift 83 = .ok (.getfield 13, 3) := by decide +kernel
theorem dX10_shift_86 : decode cX10_shift 86 = .ok (.iload_n 1, 1) := by decide +kernel
theorem dX10_shift_87 : decode cX10_shift 87 = .ok (.iaload, 1) := by decide +kernel
theorem dX10_shift_88 : decode cX10_shift 88 = .ok (.aload_n 0, 1) := by decide +kernel
theorem dX10_shift_89 : decode cX10_shift 89 = .ok (.getfield 16, 3) := by decide +kernel
theorem dX10_shift_92 : decode cX10_shift 92 = .ok (.iload_n 1, 1) := by decide +kernel
theorem dX10_shift_93 : decode cX10_shift 93 = .ok (.laload, 1) := by decide +kernel
theorem dX10_shift_94 : decode cX10_shift 94 = .ok (.invokevirtual 87, 3) := by decide +kernel
theorem dX10_shift_97 : decode cX10_shift 97 = .ok (.ireturn, 1) := by decide +kernel
theorem dX10_undo_0 : decode cX10_undo 0 = .ok (.aload_n 0, 1) := by decide +kernel
theorem dX10_undo_1 : decode cX10_undo 1 = .ok (.getfield 69, 3) := by decide +kernel
theorem dX10_undo_4 : decode cX10_undo 4 = .ok (.ifCond .ne 10, 3) := by decide +kernel
theorem dX10_undo_7 : decode cX10_undo 7 = .ok (.aload_n 0, 1) := by decide +kernel
theorem dX10_undo_8 : decode cX10_undo 8 = .ok (.bipush (-2), 2) := by decide +kernel
theorem dX10_undo_10 : decode cX10_undo 10 = .ok (.invokevirtual 58, 3) := by decide +kernel
theorem dX10_undo_13 : decode cX10_undo 13 = .ok (.ireturn, 1) := by decide +kernel
theorem dX10_undo_14 : decode cX10_undo 14 = .ok (.aload_n 0, 1) := by decide +kernel
theorem dX10_undo_15 : decode cX10_undo 15 = .ok (.iconst 0, 1) := by decide +kernel
theorem dX10_undo_16 : decode cX10_undo 16 = .ok (.putfield 69, 3) := by decide +kernel
theorem dX10_undo_19 : decode cX10_undo 19 = .ok (.aload_n 0, 1) := by decide +kernel
theorem dX10_undo_20 : decode cX10_undo 20 = .ok (.dup, 1) := by decide +kernel
theorem dX10_undo_21 : decode cX10_undo 21 = .ok (.getfield 47, 3) := by decide +kernel
theorem dX10_undo_24 : decode cX10_undo 24 = .ok (.iconst 1, 1) := by decide +kernel
theorem dX10_undo_25 : decode cX10_undo 25 = .ok (.isub, 1) := by decide +kernel
theorem dX10_undo_26 : decode cX10_undo 26 = .ok (.putfield 47, 3) := by decide +kernel
theorem dX10_undo_29 : decode cX10_undo 29 = .ok (.aload_n 0, 1) := by decide +kernel
theorem dX10_undo_30 : decode cX10_undo 30 = .ok (.aload_n 0, 1) := by decide +kernel
theorem dX10_undo_31 : decode cX10_undo 31 = .ok (.getfield 32, 3) := by decide +kernel
theorem dX10_undo_34 : decode cX10_undo 34 = .ok (.aload_n 0, 1) := by decide +kernel
theorem dX10_undo_35 : decode cX10_undo 35 = .ok (.getfield 47, 3) := by decide +kernel
theorem dX10_undo_38 : decode cX10_undo 38 = .ok (.if_icmp .ne 7, 3) := by decide +kernel
theorem dX10_undo_41 : decode cX10_undo 41 = .ok (.iconst (-1), 1) := by decide +kernel
theorem dX10_undo_42 : decode cX10_undo 42 = .ok (.goto 7, 3) := by decide +kernel
theorem dX10_undo_45 : decode cX10_undo 45 = .ok (.aload_n 0, 1) := by decide +kernel
theorem dX10_undo_46 : decode cX10_undo 46 = .ok (.getfield 32, 3) := by decide +kernel
theorem dX10_undo_49 : decode cX10_undo 49 = .ok (.putfield 32, 3) := by decide +kernel
theorem dX10_undo_52 : decode cX10_undo 52 = .ok (.aload_n 0, 1) := by decide +kernel
theorem dX10_undo_53 : decode cX10_undo 53 = .ok (.aload_n 0, 1) := by decide +kernel
theorem dX10_undo_54 : decode cX10_undo 54 = .ok (.getfield 47, 3) := by decide +kernel
theorem dX10_undo_57 : decode cX10_undo 57 = .ok (.invokevirtual 73, 3) := by decide +kernel
theorem dX10_undo_60 : decode cX10_undo 60 = .ok (.ireturn, 1) := by decide +kernel
theorem dX10_at_0 : decode cX10_at 0 = .ok (.aload_n 0, 1) := by decide +kernel
theorem dX10_at_1 : decode cX10_at 1 = .ok (.iload_n 1, 1) := by decide +kernel
theorem dX10_at_2 : decode cX10_at 2 = .ok (.invokevirtual 109, 3) := by decide +kernel
theorem dX10_at_5 : decode cX10_at 5 = .ok (.ifCond .eq 15, 3) := by decide +kernel
theorem dX10_at_8 : decode cX10_at 8 = .ok (.iload_n 2, 1) := by decide +kernel
theorem dX10_at_9 : decode cX10_at 9 = .ok (.i2l, 1) := by decide +kernel
theorem dX10_at_10 : decode cX10_at 10 = .ok (.lconst 0, 1) := by decide +kernel
theorem dX10_at_11 : decode cX10_at 11 = .ok (.ldc2_w 62, 3) := by decide +kernel
theorem dX10_at_14 : decode cX10_at 14 = .ok (.invokestatic 50, 3) := by decide +kernel
theorem dX10_at_17 : decode cX10_at 17 = .ok (.ifCond .ne 9, 3) := by decide +kernel
theorem dX10_at_20 : decode cX10_at 20 = .ok (.aload_n 0, 1) := by decide +kernel
theorem dX10_at_21 : decode cX10_at 21 = .ok (.iconst (-1), 1) := by decide +kernel
theorem dX10_at_22 : decode cX10_at 22 = .ok (.invokevirtual 128, 3) := by decide +kernel
theorem dX10_at_25 : decode cX10_at 25 = .ok (.lreturn, 1) := by decide +kernel
theorem dX10_at_26 : decode cX10_at 26 = .ok (.aload_n 0, 1) := by decide +kernel
theorem dX10_at_27 : decode cX10_at 27 = .ok (.getfield 36, 3) := by decide +kernel
theorem dX10_at_30 : decode cX10_at 30 = .ok (.aload_n 0, 1) := by decide +kernel
theorem dX10_at_31 : decode cX10_at 31 = .ok (.getfield 20, 3) := by decide +kernel
theorem dX10_at_34 : decode cX10_at 34 = .ok (.iload_n 1, 1) := by decide +kernel
theorem dX10_at_35 : decode cX10_at 35 = .ok (.iaload, 1) := by decide +kernel
theorem dX10_at_36 : decode cX10_at 36 = .ok (.dup2, 1) := by decide +kernel
theorem dX10_at_37 : decode cX10_at 37 = .ok (.iaload, 1) := by decide +kernel
theorem dX10_at_38 : decode cX10_at 38 = .ok (.iconst 1, 1) := by decide +kernel
theorem dX10_at_39 : decode cX10_at 39 = .ok (.iadd, 1) := by decide +kernel
theorem dX10_at_40 : decode cX10_at 40 = .ok (.iastore, 1) := by decide +kernel
theorem dX10_at_41 : decode cX10_at 41 = .ok (.aload_n 0, 1) := by decide +kernel
theorem dX10_at_42 : decode cX10_at 42 = .ok (.getfield 36, 3) := by decide +kernel
theorem dX10_at_45 : decode cX10_at 45 = .ok (.iconst 2, 1) := by decide +kernel
theorem dX10_at_46 : decode cX10_at 46 = .ok (.dup2, 1) := by decide +kernel
theorem dX10_at_47 : decode cX10_at 47 = .ok (.iaload, 1) := by decide +kernel
theorem dX10_at_48 : decode cX10_at 48 = .ok (.aload_n 0, 1) := by decide +kernel
theorem dX10_at_49 : decode cX10_at 49 = .ok (.getfield 20, 3) := by decide +kernel
theorem dX10_at_52 : decode cX10_at 52 = .ok (.iload_n 1, 1) := by decide +kernel
theorem dX10_at_53 : decode cX10_at 53 = .ok (.iaload, 1) := by decide +kernel
theorem dX10_at_54 : decode cX10_at 54 = .ok (.iconst 1, 1) := by decide +kernel
theorem dX10_at_55 : decode cX10_at 55 = .ok (.if_icmp .ne 7, 3) := by decide +kernel
theorem dX10_at_58 : decode cX10_at 58 = .ok (.iconst 1, 1) := by decide +kernel
theorem dX10_at_59 : decode cX10_at 59 = .ok (.goto 4, 3) := by decide +kernel
theorem dX10_at_62 : decode cX10_at 62 = .ok (.iconst 0, 1) := by decide +kernel
theorem dX10_at_63 : decode cX10_at 63 = .ok (.iadd, 1) := by decide +kernel
theorem dX10_at_64 : decode cX10_at 64 = .ok (.iastore, 1) := by decide +kernel
theorem dX10_at_65 : decode cX10_at 65 = .ok (.aload_n 0, 1) := by decide +kernel
theorem dX10_at_66 : decode cX10_at 66 = .ok (.aload_n 0, 1) := by decide +kernel
theorem dX10_at_67 : decode cX10_at 67 = .ok (.iload_n 1, 1) := by decide +kernel
theorem dX10_at_68 : decode cX10_at 68 = .ok (.iload_n 2, 1) := by decide +kernel
theorem dX10_at_69 : decode cX10_at 69 = .ok (.i2l, 1) := by decide +kernel
theorem dX10_at_70 : decode cX10_at 70 = .ok (.invokevirtual 95, 3) := by decide +kernel
theorem dX10_at_73 : decode cX10_at 73 = .ok (.invokevirtual 132, 3) := by decide +kernel
theorem dX10_at_76 : decode cX10_at 76 = .ok (.lreturn, 1) := by decide +kernel
theorem dX10_isClosed_0 : decode cX10_isClosed 0 = .ok (.aload_n 0, 1) := by decide +kernel
theorem dX10_isClosed_1 : decode cX10_isClosed 1 = .ok (.getfield 7, 3) := by decide +kernel
theorem dX10_isClosed_4 : decode cX10_isClosed 4 = .ok (.iload_n 1, 1) := by decide +kernel
theorem dX10_isClosed_5 : decode cX10_isClosed 5 = .ok (.iaload, 1) := by decide +kernel
theorem dX10_isClosed_6 : decode cX10_isClosed 6 = .ok (.aload_n 0, 1) := by decide +kernel
theorem dX10_isClosed_7 : decode cX10_isClosed 7 = .ok (.getfield 13, 3) := by decide +kernel
theorem dX10_isClosed_10 : decode cX10_isClosed 10 = .ok (.iload_n 1, 1) := by decide +kernel
theorem dX10_isClosed_11 : decode cX10_isClosed 11 = .ok (.iaload, 1) := by decide +kernel
theorem dX10_isClosed_12 : decode cX10_isClosed 12 = .ok (.iadd, 1) := by decide +kernel
theorem dX10_isClosed_13 : decode cX10_isClosed 13 = .ok (.istore_n 2, 1) := by decide +kernel
theorem dX10_isClosed_14 : decode cX10_isClosed 14 = .ok (.aload_n 0, 1) := by decide +kernel
theorem dX10_isClosed_15 : decode cX10_isClosed 15 = .ok (.getfield 23, 3) := by decide +kernel
theorem dX10_isClosed_18 : decode cX10_isClosed 18 = .ok (.sipush 300, 3) := by decide +kernel
theorem dX10_isClosed_21 : decode cX10_isClosed 21 = .ok (.iload_n 1, 1) := by decide +kernel
theorem dX10_isClosed_22 : decode cX10_isClosed 22 = .ok (.imul, 1) := by decide +kernel
theorem dX10_isClosed_23 : decode cX10_isClosed 23 = .ok (.laload, 1) := by decide +kernel
theorem dX10_isClosed_24 : decode cX10_isClosed 24 = .ok (.lconst 0, 1) := by decide +kernel
theorem dX10_isClosed_25 : decode cX10_isClosed 25 = .ok (.lcmp, 1) := by decide +kernel
theorem dX10_isClosed_26 : decode cX10_isClosed 26 = .ok (.ifCond .ne 7, 3) := by decide +kernel
theorem dX10_isClosed_29 : decode cX10_isClosed 29 = .ok (.iconst 1, 1) := by decide +kernel
theorem dX10_isClosed_30 : decode cX10_isClosed 30 = .ok (.goto 4, 3) := by decide +kernel
theorem dX10_isClosed_33 : decode cX10_isClosed 33 = .ok (.iconst 0, 1) := by decide +kernel
theorem dX10_isClosed_34 : decode cX10_isClosed 34 = .ok (.istore_n 3, 1) := by decide +kernel
theorem dX10_isClosed_35 : decode cX10_isClosed 35 = .ok (.iconst 1, 1) := by decide +kernel
theorem dX10_isClosed_36 : decode cX10_isClosed 36 = .ok (.istore 4, 2) := by decide +kernel
theorem dX10_isClosed_38 : decode cX10_isClosed 38 = .ok (.iload 4, 2) := by decide +kernel
theorem dX10_isClosed_40 : decode cX10_isClosed 40 = .ok (.iload_n 2, 1) := by decide +kernel
theorem dX10_isClosed_41 : decode cX10_isClosed 41 = .ok (.if_icmp .ge 81, 3) := by decide +kernel
theorem dX10_isClosed_44 : decode cX10_isClosed 44 = .ok (.iload_n 3, 1) := by decide +kernel
theorem dX10_isClosed_45 : decode cX10_isClosed 45 = .ok (.ifCond .eq 77, 3) := by decide +kernel
theorem dX10_isClosed_48 : decode cX10_isClosed 48 = .ok (.iload 4, 2) := by decide +kernel
theorem dX10_isClosed_50 : decode cX10_isClosed 50 = .ok (.istore 5, 2) := by decide +kernel
theorem dX10_isClosed_52 : decode cX10_isClosed 52 = .ok (.iload 5, 2) := by decide +kernel
theorem dX10_isClosed_54 : decode cX10_isClosed 54 = .ok (.iload_n 2, 1) := by decide +kernel
theorem dX10_isClosed_55 : decode cX10_isClosed 55 = .ok (.if_icmp .ge 61, 3) := by decide +kernel
theorem dX10_isClosed_58 : decode cX10_isClosed 58 = .ok (.iload_n 3, 1) := by decide +kernel
theorem dX10_isClosed_59 : decode cX10_isClosed 59 = .ok (.ifCond .eq 57, 3) := by decide +kernel
theorem dX10_isClosed_62 : decode cX10_isClosed 62 = .ok (.aload_n 0, 1) := by decide +kernel
theorem dX10_isClosed_63 : decode cX10_isClosed 63 = .ok (.iload_n 1, 1) := by decide +kernel
theorem dX10_isClosed_64 : decode cX10_isClosed 64 = .ok (.iload 4, 2) := by decide +kernel
theorem dX10_isClosed_66 : decode cX10_isClosed 66 = .ok (.iload 5, 2) := by decide +kernel
theorem dX10_isClosed_68 : decode cX10_isClosed 68 = .ok (.iadd, 1) := by decide +kernel
theorem dX10_isClosed_69 : decode cX10_isClosed 69 = .ok (.i2l, 1) := by decide +kernel
theorem dX10_isClosed_70 : decode cX10_isClosed 70 = .ok (.invokevirtual 95, 3) := by decide +kernel
theorem dX10_isClosed_73 : decode cX10_isClosed 73 = .ok (.aload_n 0, 1) := by decide +kernel
theorem dX10_isClosed_74 : decode cX10_isClosed 74 = .ok (.getfield 23, 3) := by decide +kernel
theorem dX10_isClosed_77 : decode cX10_isClosed 77 = .ok (.sipush 300, 3) := by decide +kernel
theorem dX10_isClosed_80 : decode cX10_isClosed 80 = .ok (.iload_n 1, 1) := by decide +kernel
theorem dX10_isClosed_81 : decode cX10_isClosed 81 = .ok (.imul, 1) := by decide +kernel
theorem dX10_isClosed_82 : decode cX10_isClosed 82 = .ok (.iload 4, 2) := by decide +kernel
theorem dX10_isClosed_84 : decode cX10_isClosed 84 = .ok (.iadd, 1) := by decide +kernel
theorem dX10_isClosed_85 : decode cX10_isClosed 85 = .ok (.laload, 1) := by decide +kernel
theorem dX10_isClosed_86 : decode cX10_isClosed 86 = .ok (.aload_n 0, 1) := by decide +kernel
theorem dX10_isClosed_87 : decode cX10_isClosed 87 = .ok (.getfield 23, 3) := by decide +kernel
theorem dX10_isClosed_90 : decode cX10_isClosed 90 = .ok (.sipush 300, 3) := by decide +kernel
theorem dX10_isClosed_93 : decode cX10_isClosed 93 = .ok (.iload_n 1, 1) := by decide +kernel
theorem dX10_isClosed_94 : decode cX10_isClosed 94 = .ok (.imul, 1) := by decide +kernel
theorem dX10_isClosed_95 : decode cX10_isClosed 95 = .ok (.iload 5, 2) := by decide +kernel
theorem dX10_isClosed_97 : decode cX10_isClosed 97 = .ok (.iadd, 1) := by decide +kernel
theorem dX10_isClosed_98 : decode cX10_isClosed 98 = .ok (.laload, 1) := by decide +kernel
theorem dX10_isClosed_99 : decode cX10_isClosed 99 = .ok (.ladd, 1) := by decide +kernel
theorem dX10_isClosed_100 : decode cX10_isClosed 100 = .ok (.lcmp, 1) := by decide +kernel
theorem dX10_isClosed_101 : decode cX10_isClosed 101 = .ok (.ifCond .gt 7, 3) := by decide +kernel
theorem dX10_isClosed_104 : decode cX10_isClosed 104 = .ok (.iconst 1, 1) := by decide +kernel
theorem dX10_isClosed_105 : decode cX10_isClosed 105 = .ok (.goto 4, 3) := by decide +kernel
theorem dX10_isClosed_108 : decode cX10_isClosed 108 = .ok (.iconst 0, 1) := by decide +kernel
theorem dX10_isClosed_109 : decode cX10_isClosed 109 = .ok (.istore_n 3, 1) := by decide +kernel
theorem dX10_isClosed_110 : decode cX10_isClosed 110 = .ok (.iinc 5 1, 3) := by decide +kernel
theorem dX10_isClosed_113 : decode cX10_isClosed 113 = .ok (.goto (-61), 3) := by decide +kernel
theorem dX10_isClosed_116 : decode cX10_isClosed 116 = .ok (.iinc 4 1, 3) := by decide +kernel
theorem dX10_isClosed_119 : decode cX10_isClosed 119 = .ok (.goto (-81), 3) := by decide +kernel
theorem dX10_isClosed_122 : decode cX10_isClosed 122 = .ok (.iload_n 3, 1) := by decide +kernel
theorem dX10_isClosed_123 : decode cX10_isClosed 123 = .ok (.ireturn, 1) := by decide +kernel
theorem dX10_about_0 : decode cX10_about 0 = .ok (.aload_n 0, 1) := by decide +kernel
theorem dX10_about_1 : decode cX10_about 1 = .ok (.iload_n 1, 1) := by decide +kernel
theorem dX10_about_2 : decode cX10_about 2 = .ok (.invokevirtual 109, 3) := by decide +kernel
theorem dX10_about_5 : decode cX10_about 5 = .ok (.ifCond .eq 15, 3) := by decide +kernel
theorem dX10_about_8 : decode cX10_about 8 = .ok (.iload_n 2, 1) := by decide +kernel
theorem dX10_about_9 : decode cX10_about 9 = .ok (.i2l, 1) := by decide +kernel
theorem dX10_about_10 : decode cX10_about 10 = .ok (.lconst 0, 1) := by decide +kernel
theorem dX10_about_11 : decode cX10_about 11 = .ok (.ldc2_w 136, 3) := by decide +kernel
theorem dX10_about_14 : decode cX10_about 14 = .ok (.invokestatic 50, 3) := by decide +kernel
theorem dX10_about_17 : decode cX10_about 17 = .ok (.ifCond .ne 9, 3) := by decide +kernel
theorem dX10_about_20 : decode cX10_about 20 = .ok (.aload_n 0, 1) := by decide +kernel
theorem dX10_about_21 : decode cX10_about 21 = .ok (.iconst (-1), 1) := by decide +kernel
theorem dX10_about_22 : decode cX10_about 22 = .ok (.invokevirtual 58, 3) := by decide +kernel
theorem dX10_about_25 : decode cX10_about 25 = .ok (.ireturn, 1) := by decide +kernel
theorem dX10_about_26 : decode cX10_about 26 = .ok (.aload_n 0, 1) := by decide +kernel
theorem dX10_about_27 : decode cX10_about 27 = .ok (.iload_n 2, 1) := by decide +kernel
theorem dX10_about_28 : decode cX10_about 28 = .ok (.ifCond .ne 12, 3) := by decide +kernel
theorem dX10_about_31 : decode cX10_about 31 = .ok (.aload_n 0, 1) := by decide +kernel
theorem dX10_about_32 : decode cX10_about 32 = .ok (.getfield 7, 3) := by decide +kernel
theorem dX10_about_35 : decode cX10_about 35 = .ok (.iload_n 1, 1) := by decide +kernel
theorem dX10_about_36 : decode cX10_about 36 = .ok (.iaload, 1) := by decide +kernel
theorem dX10_about_37 : decode cX10_about 37 = .ok (.goto 59, 3) := by decide +kernel
theorem dX10_about_40 : decode cX10_about 40 = .ok (.iload_n 2, 1) := by decide +kernel
theorem dX10_about_41 : decode cX10_about 41 = .ok (.iconst 1, 1) := by decide +kernel
theorem dX10_about_42 : decode cX10_about 42 = .ok (.if_icmp .ne 12, 3) := by decide +kernel
theorem dX10_about_45 : decode cX10_about 45 = .ok (.aload_n 0, 1) := by decide +kernel
theorem dX10_about_46 : decode cX10_about 46 = .ok (.getfield 13, 3) := by decide +kernel
theorem dX10_about_49 : decode cX10_about 49 = .ok (.iload_n 1, 1) := by decide +kernel
theorem dX10_about_50 : decode cX10_about 50 = .ok (.iaload, 1) := by decide +kernel
theorem dX10_about_51 : decode cX10_about 51 = .ok (.goto 45, 3) := by decide +kernel
theorem dX10_about_54 : decode cX10_about 54 = .ok (.iload_n 2, 1) := by decide +kernel
theorem dX10_about_55 : decode cX10_about 55 = .ok (.iconst 2, 1) := by decide +kernel
theorem dX10_about_56 : decode cX10_about 56 = .ok (.if_icmp .ne 13, 3) := by decide +kernel
theorem dX10_about_59 : decode cX10_about 59 = .ok (.aload_n 0, 1) := by decide +kernel
theorem dX10_about_60 : decode cX10_about 60 = .ok (.getfield 16, 3) := by decide +kernel
theorem dX10_about_63 : decode cX10_about 63 = .ok (.iload_n 1, 1) := by decide +kernel
theorem dX10_about_64 : decode cX10_about 64 = .ok (.laload, 1) := by decide +kernel
theorem dX10_about_65 : decode cX10_about 65 = .ok (.l2i, 1) := by decide +kernel
theorem dX10_about_66 : decode cX10_about 66 = .ok (.goto 30, 3) := by decide +kernel
theorem dX10_about_69 : decode cX10_about 69 = .ok (.iload_n 2, 1) := by decide +kernel
theorem dX10_about_70 : decode cX10_about 70 = .ok (.iconst 3, 1) := by decide +kernel
theorem dX10_about_71 : decode cX10_about 71 = .ok (.if_icmp .ne 12, 3) := by decide +kernel
theorem dX10_about_74 : decode cX10_about 74 = .ok (.aload_n 0, 1) := by decide +kernel
theorem dX10_about_75 : decode cX10_about 75 = .ok (.getfield 20, 3) := by decide +kernel
theorem dX10_about_78 : decode cX10_about 78 = .ok (.iload_n 1, 1) := by decide +kernel
theorem dX10_about_79 : decode cX10_about 79 = .ok (.iaload, 1) := by decide +kernel
theorem dX10_about_80 : decode cX10_about 80 = .ok (.goto 16, 3) := by decide +kernel
theorem dX10_about_83 : decode cX10_about 83 = .ok (.aload_n 0, 1) := by decide +kernel
theorem dX10_about_84 : decode cX10_about 84 = .ok (.iload_n 1, 1) := by decide +kernel
theorem dX10_about_85 : decode cX10_about 85 = .ok (.invokevirtual 138, 3) := by decide +kernel
theorem dX10_about_88 : decode cX10_about 88 = .ok (.ifCond .eq 7, 3) := by decide +kernel
theorem dX10_about_91 : decode cX10_about 91 = .ok (.iconst 1, 1) := by decide +kernel
theorem dX10_about_92 : decode cX10_about 92 = .ok (.goto 4, 3) := by decide +kernel
theorem dX10_about_95 : decode cX10_about 95 = .ok (.iconst 0, 1) := by decide +kernel
theorem dX10_about_96 : decode cX10_about 96 = .ok (.invokevirtual 73, 3) := by decide +kernel
theorem dX10_about_99 : decode cX10_about 99 = .ok (.ireturn, 1) := by decide +kernel
theorem dX10_rate_0 : decode cX10_rate 0 = .ok (.aload_n 0, 1) := by decide +kernel
theorem dX10_rate_1 : decode cX10_rate 1 = .ok (.iload_n 1, 1) := by decide +kernel
theorem dX10_rate_2 : decode cX10_rate 2 = .ok (.invokevirtual 109, 3) := by decide +kernel
theorem dX10_rate_5 : decode cX10_rate 5 = .ok (.ifCond .eq 13, 3) := by decide +kernel
theorem dX10_rate_8 : decode cX10_rate 8 = .ok (.iload_n 2, 1) := by decide +kernel
theorem dX10_rate_9 : decode cX10_rate 9 = .ok (.i2l, 1) := by decide +kernel
theorem dX10_rate_10 : decode cX10_rate 10 = .ok (.lconst 0, 1) := by decide +kernel
theorem dX10_rate_11 : decode cX10_rate 11 = .ok (.lconst 1, 1) := by decide +kernel
theorem dX10_rate_12 : decode cX10_rate 12 = .ok (.invokestatic 50, 3) := by decide +kernel
theorem dX10_rate_15 : decode cX10_rate 15 = .ok (.ifCond .ne 9, 3) := by decide +kernel
theorem dX10_rate_18 : decode cX10_rate 18 = .ok (.aload_n 0, 1) := by decide +kernel
theorem dX10_rate_19 : decode cX10_rate 19 = .ok (.iconst (-1), 1) := by decide +kernel
theorem dX10_rate_20 : decode cX10_rate 20 = .ok (.invokevirtual 58, 3) := by decide +kernel
theorem dX10_rate_23 : decode cX10_rate 23 = .ok (.ireturn, 1) := by decide +kernel
theorem dX10_rate_24 : decode cX10_rate 24 = .ok (.aload_n 0, 1) := by decide +kernel
theorem dX10_rate_25 : decode cX10_rate 25 = .ok (.getfield 16, 3) := by decide +kernel
theorem dX10_rate_28 : decode cX10_rate 28 = .ok (.iload_n 1, 1) := by decide +kernel
theorem dX10_rate_29 : decode cX10_rate 29 = .ok (.laload, 1) := by decide +kernel
theorem dX10_rate_30 : decode cX10_rate 30 = .ok (.l2i, 1) := by decide +kernel
theorem dX10_rate_31 : decode cX10_rate 31 = .ok (.aload_n 0, 1) := by decide +kernel
theorem dX10_rate_32 : decode cX10_rate 32 = .ok (.getfield 13, 3) := by decide +kernel
theorem dX10_rate_35 : decode cX10_rate 35 = .ok (.iload_n 1, 1) := by decide +kernel
theorem dX10_rate_36 : decode cX10_rate 36 = .ok (.iaload, 1) := by decide +kernel
theorem dX10_rate_37 : decode cX10_rate 37 = .ok (.invokestatic 91, 3) := by decide +kernel
theorem dX10_rate_40 : decode cX10_rate 40 = .ok (.istore_n 3, 1) := by decide +kernel
theorem dX10_rate_41 : decode cX10_rate 41 = .ok (.aload_n 0, 1) := by decide +kernel
theorem dX10_rate_42 : decode cX10_rate 42 = .ok (.iload_n 2, 1) := by decide +kernel
theorem dX10_rate_43 : decode cX10_rate 43 = .ok (.ifCond .ne 15, 3) := by decide +kernel
theorem dX10_rate_46 : decode cX10_rate 46 = .ok (.aload_n 0, 1) := by decide +kernel
theorem dX10_rate_47 : decode cX10_rate 47 = .ok (.getfield 16, 3) := by decide +kernel
theorem dX10_rate_50 : decode cX10_rate 50 = .ok (.iload_n 1, 1) := by decide +kernel
theorem dX10_rate_51 : decode cX10_rate 51 = .ok (.laload, 1) := by decide +kernel
theorem dX10_rate_52 : decode cX10_rate 52 = .ok (.l2i, 1) := by decide +kernel
theorem dX10_rate_53 : decode cX10_rate 53 = .ok (.iload_n 3, 1) := by decide +kernel
theorem dX10_rate_54 : decode cX10_rate 54 = .ok (.idiv, 1) := by decide +kernel
theorem dX10_rate_55 : decode cX10_rate 55 = .ok (.goto 11, 3) := by decide +kernel
theorem dX10_rate_58 : decode cX10_rate 58 = .ok (.aload_n 0, 1) := by decide +kernel
theorem dX10_rate_59 : decode cX10_rate 59 = .ok (.getfield 13, 3) := by decide +kernel
theorem dX10_rate_62 : decode cX10_rate 62 = .ok (.iload_n 1, 1) := by decide +kernel
theorem dX10_rate_63 : decode cX10_rate 63 = .ok (.iaload, 1) := by decide +kernel
theorem dX10_rate_64 : decode cX10_rate 64 = .ok (.iload_n 3, 1) := by decide +kernel
theorem dX10_rate_65 : decode cX10_rate 65 = .ok (.idiv, 1) := by decide +kernel
theorem dX10_rate_66 : decode cX10_rate 66 = .ok (.invokevirtual 73, 3) := by decide +kernel
theorem dX10_rate_69 : decode cX10_rate 69 = .ok (.ireturn, 1) := by decide +kernel
theorem dX10_latest_0 : decode cX10_latest 0 = .ok (.aload_n 0, 1) := by decide +kernel
theorem dX10_latest_1 : decode cX10_latest 1 = .ok (.getfield 7, 3) := by decide +kernel
theorem dX10_latest_4 : decode cX10_latest 4 = .ok (.iload_n 1, 1) := by decide +kernel
theorem dX10_latest_5 : decode cX10_latest 5 = .ok (.iaload, 1) := by decide +kernel
theorem dX10_latest_6 : decode cX10_latest 6 = .ok (.aload_n 0, 1) := by decide +kernel
theorem dX10_latest_7 : decode cX10_latest 7 = .ok (.getfield 7, 3) := by decide +kernel
theorem dX10_latest_10 : decode cX10_latest 10 = .ok (.iload_n 2, 1) := by decide +kernel
theorem dX10_latest_11 : decode cX10_latest 11 = .ok (.iaload, 1) := by decide +kernel
theorem dX10_latest_12 : decode cX10_latest 12 = .ok (.if_icmp .le 12, 3) := by decide +kernel
theorem dX10_latest_15 : decode cX10_latest 15 = .ok (.aload_n 0, 1) := by decide +kernel
theorem dX10_latest_16 : decode cX10_latest 16 = .ok (.getfield 7, 3) := by decide +kernel
theorem dX10_latest_19 : decode cX10_latest 19 = .ok (.iload_n 1, 1) := by decide +kernel
theorem dX10_latest_20 : decode cX10_latest 20 = .ok (.iaload, 1) := by decide +kernel
theorem dX10_latest_21 : decode cX10_latest 21 = .ok (.goto 9, 3) := by decide +kernel
theorem dX10_latest_24 : decode cX10_latest 24 = .ok (.aload_n 0, 1) := by decide +kernel
theorem dX10_latest_25 : decode cX10_latest 25 = .ok (.getfield 7, 3) := by decide +kernel
theorem dX10_latest_28 : decode cX10_latest 28 = .ok (.iload_n 2, 1) := by decide +kernel
theorem dX10_latest_29 : decode cX10_latest 29 = .ok (.iaload, 1) := by decide +kernel
theorem dX10_latest_30 : decode cX10_latest 30 = .ok (.ireturn, 1) := by decide +kernel
theorem dX10_unlike_0 : decode cX10_unlike 0 = .ok (.aload_n 0, 1) := by decide +kernel
theorem dX10_unlike_1 : decode cX10_unlike 1 = .ok (.iload_n 1, 1) := by decide +kernel
theorem dX10_unlike_2 : decode cX10_unlike 2 = .ok (.invokevirtual 109, 3) := by decide +kernel
theorem dX10_unlike_5 : decode cX10_unlike 5 = .ok (.ifCond .eq 11, 3) := by decide +kernel
theorem dX10_unlike_8 : decode cX10_unlike 8 = .ok (.aload_n 0, 1) := by decide +kernel
theorem dX10_unlike_9 : decode cX10_unlike 9 = .ok (.iload_n 2, 1) := by decide +kernel
theorem dX10_unlike_10 : decode cX10_unlike 10 = .ok (.invokevirtual 109, 3) := by decide +kernel
theorem dX10_unlike_13 : decode cX10_unlike 13 = .ok (.ifCond .ne 11, 3) := by decide +kernel
theorem dX10_unlike_16 : decode cX10_unlike 16 = .ok (.aload_n 0, 1) := by decide +kernel
theorem dX10_unlike_17 : decode cX10_unlike 17 = .ok (.iconst (-1), 1) := by decide +kernel
theorem dX10_unlike_18 : decode cX10_unlike 18 = .ok (.putfield 42, 3) := by decide +kernel
theorem dX10_unlike_21 : decode cX10_unlike 21 = .ok (.bipush (-2), 2) := by decide +kernel
theorem dX10_unlike_23 : decode cX10_unlike 23 = .ok (.ireturn, 1) := by decide +kernel
theorem dX10_unlike_24 : decode cX10_unlike 24 = .ok (.aload_n 0, 1) := by decide +kernel
theorem dX10_unlike_25 : decode cX10_unlike 25 = .ok (.iload_n 1, 1) := by decide +kernel
theorem dX10_unlike_26 : decode cX10_unlike 26 = .ok (.iload_n 2, 1) := by decide +kernel
theorem dX10_unlike_27 : decode cX10_unlike 27 = .ok (.invokevirtual 113, 3) := by decide +kernel
theorem dX10_unlike_30 : decode cX10_unlike 30 = .ok (.istore_n 3, 1) := by decide +kernel
theorem dX10_unlike_31 : decode cX10_unlike 31 = .ok (.iload_n 3, 1) := by decide +kernel
theorem dX10_unlike_32 : decode cX10_unlike 32 = .ok (.bipush 60, 2) := by decide +kernel
theorem dX10_unlike_34 : decode cX10_unlike 34 = .ok (.if_icmp .le 12, 3) := by decide +kernel
theorem dX10_unlike_37 : decode cX10_unlike 37 = .ok (.aload_n 0, 1) := by decide +kernel
theorem dX10_unlike_38 : decode cX10_unlike 38 = .ok (.bipush (-4), 2) := by decide +kernel
theorem dX10_unlike_40 : decode cX10_unlike 40 = .ok (.putfield 42, 3) := by decide +kernel
theorem dX10_unlike_43 : decode cX10_unlike 43 = .ok (.bipush (-2), 2) := by decide +kernel
theorem dX10_unlike_45 : decode cX10_unlike 45 = .ok (.ireturn, 1) := by decide +kernel
theorem dX10_unlike_46 : decode cX10_unlike 46 = .ok (.aload_n 0, 1) := by decide +kernel
theorem dX10_unlike_47 : decode cX10_unlike 47 = .ok (.iload_n 1, 1) := by decide +kernel
theorem dX10_unlike_48 : decode cX10_unlike 48 = .ok (.iload_n 2, 1) := by decide +kernel
theorem dX10_unlike_49 : decode cX10_unlike 49 = .ok (.invokevirtual 141, 3) := by decide +kernel
theorem dX10_unlike_52 : decode cX10_unlike 52 = .ok (.iconst 2, 1) := by decide +kernel
theorem dX10_unlike_53 : decode cX10_unlike 53 = .ok (.iload_n 3, 1) := by decide +kernel
theorem dX10_unlike_54 : decode cX10_unlike 54 = .ok (.imul, 1) := by decide +kernel
theorem dX10_unlike_55 : decode cX10_unlike 55 = .ok (.iadd, 1) := by decide +kernel
theorem dX10_unlike_56 : decode cX10_unlike 56 = .ok (.istore 4, 2) := by decide +kernel
theorem dX10_unlike_58 : decode cX10_unlike 58 = .ok (.iconst 0, 1) := by decide +kernel
theorem dX10_unlike_59 : decode cX10_unlike 59 = .ok (.istore 5, 2) := by decide +kernel
theorem dX10_unlike_61 : decode cX10_unlike 61 = .ok (.iload 5, 2) := by decide +kernel
theorem dX10_unlike_63 : decode cX10_unlike 63 = .ok (.iload 4, 2) := by decide +kernel
theorem dX10_unlike_65 : decode cX10_unlike 65 = .ok (.if_icmp .ge 36, 3) := by decide +kernel
theorem dX10_unlike_68 : decode cX10_unlike 68 = .ok (.aload_n 0, 1) := by decide +kernel
theorem dX10_unlike_69 : decode cX10_unlike 69 = .ok (.iload_n 1, 1) := by decide +kernel
theorem dX10_unlike_70 : decode cX10_unlike 70 = .ok (.iload 5, 2) := by decide +kernel
theorem dX10_unlike_72 : decode cX10_unlike 72 = .ok (.i2l, 1) := by decide +kernel
theorem dX10_unlike_73 : decode cX10_unlike 73 = .ok (.invokevirtual 95, 3) := by decide +kernel
theorem dX10_unlike_76 : decode cX10_unlike 76 = .ok (.aload_n 0, 1) := by decide +kernel
theorem dX10_unlike_77 : decode cX10_unlike 77 = .ok (.iload_n 2, 1) := by decide +kernel
theorem dX10_unlike_78 : decode cX10_unlike 78 = .ok (.iload 5, 2) := by decide +kernel
theorem dX10_unlike_80 : decode cX10_unlike 80 = .ok (.i2l, 1) := by decide +kernel
theorem dX10_unlike_81 : decode cX10_unlike 81 = .ok (.invokevirtual 95, 3) := by decide +kernel
theorem dX10_unlike_84 : decode cX10_unlike 84 = .ok (.lcmp, 1) := by decide +kernel
theorem dX10_unlike_85 : decode cX10_unlike 85 = .ok (.ifCond .eq 10, 3) := by decide +kernel
theorem dX10_unlike_88 : decode cX10_unlike 88 = .ok (.aload_n 0, 1) := by decide +kernel
theorem dX10_unlike_89 : decode cX10_unlike 89 = .ok (.iload 5, 2) := by decide +kernel
theorem dX10_unlike_91 : decode cX10_unlike 91 = .ok (.invokevirtual 73, 3) := by decide +kernel
theorem dX10_unlike_94 : decode cX10_unlike 94 = .ok (.ireturn, 1) := by decide +kernel
theorem dX10_unlike_95 : decode cX10_unlike 95 = .ok (.iinc 5 1, 3) := by decide +kernel
theorem dX10_unlike_98 : decode cX10_unlike 98 = .ok (.goto (-37), 3) := by decide +kernel
theorem dX10_unlike_101 : decode cX10_unlike 101 = .ok (.aload_n 0, 1) := by decide +kernel
theorem dX10_unlike_102 : decode cX10_unlike 102 = .ok (.iconst (-1), 1) := by decide +kernel
theorem dX10_unlike_103 : decode cX10_unlike 103 = .ok (.invokevirtual 73, 3) := by decide +kernel
theorem dX10_unlike_106 : decode cX10_unlike 106 = .ok (.ireturn, 1) := by decide +kernel
theorem dX10_below_0 : decode cX10_below 0 = .ok (.aload_n 0, 1) := by decide +kernel
theorem dX10_below_1 : decode cX10_below 1 = .ok (.iload_n 1, 1) := by decide +kernel
theorem dX10_below_2 : decode cX10_below 2 = .ok (.invokevirtual 109, 3) := by decide +kernel
theorem dX10_below_5 : decode cX10_below 5 = .ok (.ifCond .eq 11, 3) := by decide +kernel
theorem dX10_below_8 : decode cX10_below 8 = .ok (.aload_n 0, 1) := by decide +kernel
theorem dX10_below_9 : decode cX10_below 9 = .ok (.iload_n 2, 1) := by decide +kernel
theorem dX10_below_10 : decode cX10_below 10 = .ok (.invokevirtual 109, 3) := by decide +kernel
theorem dX10_below_13 : decode cX10_below 13 = .ok (.ifCond .ne 9, 3) := by decide +kernel
theorem dX10_below_16 : decode cX10_below 16 = .ok (.aload_n 0, 1) := by decide +kernel
theorem dX10_below_17 : decode cX10_below 17 = .ok (.iconst (-1), 1) := by decide +kernel
theorem dX10_below_18 : decode cX10_below 18 = .ok (.invokevirtual 58, 3) := by decide +kernel
theorem dX10_below_21 : decode cX10_below 21 = .ok (.ireturn, 1) := by decide +kernel
theorem dX10_below_22 : decode cX10_below 22 = .ok (.aload_n 0, 1) := by decide +kernel
theorem dX10_below_23 : decode cX10_below 23 = .ok (.iload_n 1, 1) := by decide +kernel
theorem dX10_below_24 : decode cX10_below 24 = .ok (.iload_n 2, 1) := by decide +kernel
theorem dX10_below_25 : decode cX10_below 25 = .ok (.invokevirtual 113, 3) := by decide +kernel
theorem dX10_below_28 : decode cX10_below 28 = .ok (.istore_n 3, 1) := by decide +kernel
theorem dX10_below_29 : decode cX10_below 29 = .ok (.iload_n 3, 1) := by decide +kernel
theorem dX10_below_30 : decode cX10_below 30 = .ok (.bipush 60, 2) := by decide +kernel
theorem dX10_below_32 : decode cX10_below 32 = .ok (.if_icmp .le 10, 3) := by decide +kernel
theorem dX10_below_35 : decode cX10_below 35 = .ok (.aload_n 0, 1) := by decide +kernel
theorem dX10_below_36 : decode cX10_below 36 = .ok (.bipush (-4), 2) := by decide +kernel
theorem dX10_below_38 : decode cX10_below 38 = .ok (.invokevirtual 58, 3) := by decide +kernel
theorem dX10_below_41 : decode cX10_below 41 = .ok (.ireturn, 1) := by decide +kernel
theorem dX10_below_42 : decode cX10_below 42 = .ok (.aload_n 0, 1) := by decide +kernel
theorem dX10_below_43 : decode cX10_below 43 = .ok (.iload_n 1, 1) := by decide +kernel
theorem dX10_below_44 : decode cX10_below 44 = .ok (.iload_n 3, 1) := by decide +kernel
theorem dX10_below_45 : decode cX10_below 45 = .ok (.invokevirtual 116, 3) := by decide +kernel
theorem dX10_below_48 : decode cX10_below 48 = .ok (.aload_n 0, 1) := by decide +kernel
theorem dX10_below_49 : decode cX10_below 49 = .ok (.iload_n 2, 1) := by decide +kernel
theorem dX10_below_50 : decode cX10_below 50 = .ok (.iload_n 3, 1) := by decide +kernel
theorem dX10_below_51 : decode cX10_below 51 = .ok (.invokevirtual 116, 3) := by decide +kernel
theorem dX10_below_54 : decode cX10_below 54 = .ok (.lcmp, 1) := by decide +kernel
theorem dX10_below_55 : decode cX10_below 55 = .ok (.ifCond .gt 7, 3) := by decide +kernel
theorem dX10_below_58 : decode cX10_below 58 = .ok (.iconst 1, 1) := by decide +kernel
theorem dX10_below_59 : decode cX10_below 59 = .ok (.goto 4, 3) := by decide +kernel
theorem dX10_below_62 : decode cX10_below 62 = .ok (.iconst 0, 1) := by decide +kernel
theorem dX10_below_63 : decode cX10_below 63 = .ok (.istore 4, 2) := by decide +kernel
theorem dX10_below_65 : decode cX10_below 65 = .ok (.iconst 0, 1) := by decide +kernel
theorem dX10_below_66 : decode cX10_below 66 = .ok (.istore 5, 2) := by decide +kernel
theorem dX10_below_68 : decode cX10_below 68 = .ok (.iload 5, 2) := by decide +kernel
theorem dX10_below_70 : decode cX10_below 70 = .ok (.aload_n 0, 1) := by decide +kernel
theorem dX10_below_71 : decode cX10_below 71 = .ok (.iload_n 1, 1) := by decide +kernel
theorem dX10_below_72 : decode cX10_below 72 = .ok (.iload_n 2, 1) := by decide +kernel
theorem dX10_below_73 : decode cX10_below 73 = .ok (.invokevirtual 141, 3) := by decide +kernel
theorem dX10_below_76 : decode cX10_below 76 = .ok (.iload_n 3, 1) := by decide +kernel
theorem dX10_below_77 : decode cX10_below 77 = .ok (.iadd, 1) := by decide +kernel
theorem dX10_below_78 : decode cX10_below 78 = .ok (.if_icmp .ge 41, 3) := by decide +kernel
theorem dX10_below_81 : decode cX10_below 81 = .ok (.iload 4, 2) := by decide +kernel
theorem dX10_below_83 : decode cX10_below 83 = .ok (.ifCond .eq 36, 3) := by decide +kernel
theorem dX10_below_86 : decode cX10_below 86 = .ok (.aload_n 0, 1) := by decide +kernel
theorem dX10_below_87 : decode cX10_below 87 = .ok (.iload_n 1, 1) := by decide +kernel
theorem dX10_below_88 : decode cX10_below 88 = .ok (.iload 5, 2) := by decide +kernel
theorem dX10_below_90 : decode cX10_below 90 = .ok (.i2l, 1) := by decide +kernel
theorem dX10_below_91 : decode cX10_below 91 = .ok (.invokevirtual 95, 3) := by decide +kernel
theorem dX10_below_94 : decode cX10_below 94 = .ok (.aload_n 0, 1) := by decide +kernel
theorem dX10_below_95 : decode cX10_below 95 = .ok (.iload_n 2, 1) := by decide +kernel
theorem dX10_below_96 : decode cX10_below 96 = .ok (.iload 5, 2) := by decide +kernel
theorem dX10_below_98 : decode cX10_below 98 = .ok (.i2l, 1) := by decide +kernel
theorem dX10_below_99 : decode cX10_below 99 = .ok (.invokevirtual 95, 3) := by decide +kernel
theorem dX10_below_102 : decode cX10_below 102 = .ok (.lcmp, 1) := by decide +kernel
theorem dX10_below_103 : decode cX10_below 103 = .ok (.ifCond .gt 7, 3) := by decide +kernel
theorem dX10_below_106 : decode cX10_below 106 = .ok (.iconst 1, 1) := by decide +kernel
theorem dX10_below_107 : decode cX10_below 107 = .ok (.goto 4, 3) := by decide +kernel
theorem dX10_below_110 : decode cX10_below 110 = .ok (.iconst 0, 1) := by decide +kernel
theorem dX10_below_111 : decode cX10_below 111 = .ok (.istore 4, 2) := by decide +kernel
theorem dX10_below_113 : decode cX10_below 113 = .ok (.iinc 5 1, 3) := by decide +kernel
theorem dX10_below_116 : decode cX10_below 116 = .ok (.goto (-48), 3) := by decide +kernel
theorem dX10_below_119 : decode cX10_below 119 = .ok (.aload_n 0, 1) := by decide +kernel
theorem dX10_below_120 : decode cX10_below 120 = .ok (.iload 4, 2) := by decide +kernel
theorem dX10_below_122 : decode cX10_below 122 = .ok (.ifCond .eq 7, 3) := by decide +kernel
theorem dX10_below_125 : decode cX10_below 125 = .ok (.iconst 1, 1) := by decide +kernel
theorem dX10_below_126 : decode cX10_below 126 = .ok (.goto 4, 3) := by decide +kernel
theorem dX10_below_129 : decode cX10_below 129 = .ok (.iconst 0, 1) := by decide +kernel
theorem dX10_below_130 : decode cX10_below 130 = .ok (.invokevirtual 73, 3) := by decide +kernel
theorem dX10_below_133 : decode cX10_below 133 = .ok (.ireturn, 1) := by decide +kernel
theorem dX10_spanOf_0 : decode cX10_spanOf 0 = .ok (.aload_n 0, 1) := by decide +kernel
theorem dX10_spanOf_1 : decode cX10_spanOf 1 = .ok (.getfield 7, 3) := by decide +kernel
theorem dX10_spanOf_4 : decode cX10_spanOf 4 = .ok (.iload_n 1, 1) := by decide +kernel
theorem dX10_spanOf_5 : decode cX10_spanOf 5 = .ok (.iaload, 1) := by decide +kernel
theorem dX10_spanOf_6 : decode cX10_spanOf 6 = .ok (.aload_n 0, 1) := by decide +kernel
theorem dX10_spanOf_7 : decode cX10_spanOf 7 = .ok (.getfield 13, 3) := by decide +kernel
theorem dX10_spanOf_10 : decode cX10_spanOf 10 = .ok (.iload_n 1, 1) := by decide +kernel
theorem dX10_spanOf_11 : decode cX10_spanOf 11 = .ok (.iaload, 1) := by decide +kernel
theorem dX10_spanOf_12 : decode cX10_spanOf 12 = .ok (.iadd, 1) := by decide +kernel
theorem dX10_spanOf_13 : decode cX10_spanOf 13 = .ok (.istore 4, 2) := by decide +kernel
theorem dX10_spanOf_15 : decode cX10_spanOf 15 = .ok (.iconst 0, 1) := by decide +kernel
theorem dX10_spanOf_16 : decode cX10_spanOf 16 = .ok (.istore 5, 2) := by decide +kernel
theorem dX10_spanOf_18 : decode cX10_spanOf 18 = .ok (.iload 5, 2) := by decide +kernel
theorem dX10_spanOf_20 : decode cX10_spanOf 20 = .ok (.iload 4, 2) := by decide +kernel
theorem dX10_spanOf_22 : decode cX10_spanOf 22 = .ok (.if_icmp .ge 31, 3) := by decide +kernel
theorem dX10_spanOf_25 : decode cX10_spanOf 25 = .ok (.aload_n 0, 1) := by decide +kernel
theorem dX10_spanOf_26 : decode cX10_spanOf 26 = .ok (.getfield 23, 3) := by decide +kernel
theorem dX10_spanOf_29 : decode cX10_spanOf 29 = .ok (.sipush 300, 3) := by decide +kernel
theorem dX10_spanOf_32 : decode cX10_spanOf 32 = .ok (.iload_n 1, 1) := by decide +kernel
theorem dX10_spanOf_33 : decode cX10_spanOf 33 = .ok (.imul, 1) := by decide +kernel
theorem dX10_spanOf_34 : decode cX10_spanOf 34 = .ok (.iload 5, 2) := by decide +kernel
theorem dX10_spanOf_36 : decode cX10_spanOf 36 = .ok (.iadd, 1) := by decide +kernel
theorem dX10_spanOf_37 : decode cX10_spanOf 37 = .ok (.laload, 1) := by decide +kernel
theorem dX10_spanOf_38 : decode cX10_spanOf 38 = .ok (.lload_n 2, 1) := by decide +kernel
theorem dX10_spanOf_39 : decode cX10_spanOf 39 = .ok (.lcmp, 1) := by decide +kernel
theorem dX10_spanOf_40 : decode cX10_spanOf 40 = .ok (.ifCond .lt 7, 3) := by decide +kernel
theorem dX10_spanOf_43 : decode cX10_spanOf 43 = .ok (.iload 5, 2) := by decide +kernel
theorem dX10_spanOf_45 : decode cX10_spanOf 45 = .ok (.i2l, 1) := by decide +kernel
theorem dX10_spanOf_46 : decode cX10_spanOf 46 = .ok (.lreturn, 1) := by decide +kernel
theorem dX10_spanOf_47 : decode cX10_spanOf 47 = .ok (.iinc 5 1, 3) := by decide +kernel
theorem dX10_spanOf_50 : decode cX10_spanOf 50 = .ok (.goto (-32), 3) := by decide +kernel
theorem dX10_spanOf_53 : decode cX10_spanOf 53 = .ok (.aload_n 0, 1) := by decide +kernel
theorem dX10_spanOf_54 : decode cX10_spanOf 54 = .ok (.getfield 16, 3) := by decide +kernel
theorem dX10_spanOf_57 : decode cX10_spanOf 57 = .ok (.iload_n 1, 1) := by decide +kernel
theorem dX10_spanOf_58 : decode cX10_spanOf 58 = .ok (.laload, 1) := by decide +kernel
theorem dX10_spanOf_59 : decode cX10_spanOf 59 = .ok (.lconst 0, 1) := by decide +kernel
theorem dX10_spanOf_60 : decode cX10_spanOf 60 = .ok (.lcmp, 1) := by decide +kernel
theorem dX10_spanOf_61 : decode cX10_spanOf 61 = .ok (.ifCond .ne 7, 3) := by decide +kernel
theorem dX10_spanOf_64 : decode cX10_spanOf 64 = .ok (.ldc2_w 45, 3) := by decide +kernel
theorem dX10_spanOf_67 : decode cX10_spanOf 67 = .ok (.lreturn, 1) := by decide +kernel
theorem dX10_spanOf_68 : decode cX10_spanOf 68 = .ok (.ldc2_w 45, 3) := by decide +kernel
theorem dX10_spanOf_71 : decode cX10_spanOf 71 = .ok (.lstore 5, 2) := by decide +kernel
theorem dX10_spanOf_73 : decode cX10_spanOf 73 = .ok (.iconst 0, 1) := by decide +kernel
theorem dX10_spanOf_74 : decode cX10_spanOf 74 = .ok (.istore 7, 2) := by decide +kernel
theorem dX10_spanOf_76 : decode cX10_spanOf 76 = .ok (.iload 7, 2) := by decide +kernel
theorem dX10_spanOf_78 : decode cX10_spanOf 78 = .ok (.aload_n 0, 1) := by decide +kernel
theorem dX10_spanOf_79 : decode cX10_spanOf 79 = .ok (.getfield 13, 3) := by decide +kernel
theorem dX10_spanOf_82 : decode cX10_spanOf 82 = .ok (.iload_n 1, 1) := by decide +kernel
theorem dX10_spanOf_83 : decode cX10_spanOf 83 = .ok (.iaload, 1) := by decide +kernel
theorem dX10_spanOf_84 : decode cX10_spanOf 84 = .ok (.if_icmp .ge 96, 3) := by decide +kernel
theorem dX10_spanOf_87 : decode cX10_spanOf 87 = .ok (.lload_n 2, 1) := by decide +kernel
theorem dX10_spanOf_88 : decode cX10_spanOf 88 = .ok (.aload_n 0, 1) := by decide +kernel
theorem dX10_spanOf_89 : decode cX10_spanOf 89 = .ok (.getfield 23, 3) := by decide +kernel
theorem dX10_spanOf_92 : decode cX10_spanOf 92 = .ok (.sipush 300, 3) := by decide +kernel
theorem dX10_spanOf_95 : decode cX10_spanOf 95 = .ok (.iload_n 1, 1) := by decide +kernel
theorem dX10_spanOf_96 : decode cX10_spanOf 96 = .ok (.imul, 1) := by decide +kernel
theorem dX10_spanOf_97 : decode cX10_spanOf 97 = .ok (.aload_n 0, 1) := by decide +kernel
theorem dX10_spanOf_98 : decode cX10_spanOf 98 = .ok (.getfield 7, 3) := by decide +kernel
theorem dX10_spanOf_101 : decode cX10_spanOf 101 = .ok (.iload_n 1, 1) := by decide +kernel
theorem dX10_spanOf_102 : decode cX10_spanOf 102 = .ok (.iaload, 1) := by decide +kernel
theorem dX10_spanOf_103 : decode cX10_spanOf 103 = .ok (.iadd, 1) := by decide +kernel
theorem dX10_spanOf_104 : decode cX10_spanOf 104 = .ok (.iload 7, 2) := by decide +kernel
theorem dX10_spanOf_106 : decode cX10_spanOf 106 = .ok (.iadd, 1) := by decide +kernel
theorem dX10_spanOf_107 : decode cX10_spanOf 107 = .ok (.laload, 1) := by decide +kernel
theorem dX10_spanOf_108 : decode cX10_spanOf 108 = .ok (.lsub, 1) := by decide +kernel
theorem dX10_spanOf_109 : decode cX10_spanOf 109 = .ok (.lstore 8, 2) := by decide +kernel
theorem dX10_spanOf_111 : decode cX10_spanOf 111 = .ok (.aload_n 0, 1) := by decide +kernel
theorem dX10_spanOf_112 : decode cX10_spanOf 112 = .ok (.getfield 7, 3) := by decide +kernel
theorem dX10_spanOf_115 : decode cX10_spanOf 115 = .ok (.iload_n 1, 1) := by decide +kernel
theorem dX10_spanOf_116 : decode cX10_spanOf 116 = .ok (.iaload, 1) := by decide +kernel
theorem dX10_spanOf_117 : decode cX10_spanOf 117 = .ok (.iload 7, 2) := by decide +kernel
theorem dX10_spanOf_119 : decode cX10_spanOf 119 = .ok (.iadd, 1) := by decide +kernel
theorem dX10_spanOf_120 : decode cX10_spanOf 120 = .ok (.i2l, 1) := by decide +kernel
theorem dX10_spanOf_121 : decode cX10_spanOf 121 = .ok (.lload 8, 2) := by decide +kernel
theorem dX10_spanOf_123 : decode cX10_spanOf 123 = .ok (.aload_n 0, 1) := by decide +kernel
theorem dX10_spanOf_124 : decode cX10_spanOf 124 = .ok (.getfield 16, 3) := by decide +kernel
theorem dX10_spanOf_127 : decode cX10_spanOf 127 = .ok (.iload_n 1, 1) := by decide +kernel
theorem dX10_spanOf_128 : decode cX10_spanOf 128 = .ok (.laload, 1) := by decide +kernel
theorem dX10_spanOf_129 : decode cX10_spanOf 129 = .ok (.ladd, 1) := by decide +kernel
theorem dX10_spanOf_130 : decode cX10_spanOf 130 = .ok (.lconst 1, 1) := by decide +kernel
theorem dX10_spanOf_131 : decode cX10_spanOf 131 = .ok (.lsub, 1) := by decide +kernel
theorem dX10_spanOf_132 : decode cX10_spanOf 132 = .ok (.aload_n 0, 1) := by decide +kernel
theorem dX10_spanOf_133 : decode cX10_spanOf 133 = .ok (.getfield 16, 3) := by decide +kernel
theorem dX10_spanOf_136 : decode cX10_spanOf 136 = .ok (.iload_n 1, 1) := by decide +kernel
theorem dX10_spanOf_137 : decode cX10_spanOf 137 = .ok (.laload, 1) := by decide +kernel
theorem dX10_spanOf_138 : decode cX10_spanOf 138 = .ok (.ldiv, 1) := by decide +kernel
theorem dX10_spanOf_139 : decode cX10_spanOf 139 = .ok (.aload_n 0, 1) := by decide +kernel
theorem dX10_spanOf_140 : decode cX10_spanOf 140 = .ok (.getfield 13, 3) := by decide +kernel
theorem dX10_spanOf_143 : decode cX10_spanOf 143 = .ok (.iload_n 1, 1) := by decide +kernel
theorem dX10_spanOf_144 : decode cX10_spanOf 144 = .ok (.iaload, 1) := by decide +kernel
theorem dX10_spanOf_145 : decode cX10_spanOf 145 = .ok (.i2l, 1) := by decide +kernel
theorem dX10_spanOf_146 : decode cX10_spanOf 146 = .ok (.lmul, 1) := by decide +kernel
theorem dX10_spanOf_147 : decode cX10_spanOf 147 = .ok (.ladd, 1) := by decide +kernel
theorem dX10_spanOf_148 : decode cX10_spanOf 148 = .ok (.lstore 10, 2) := by decide +kernel
theorem dX10_spanOf_150 : decode cX10_spanOf 150 = .ok (.lload 5, 2) := by decide +kernel
theorem dX10_spanOf_152 : decode cX10_spanOf 152 = .ok (.lconst 0, 1) := by decide +kernel
theorem dX10_spanOf_153 : decode cX10_spanOf 153 = .ok (.lcmp, 1) := by decide +kernel
theorem dX10_spanOf_154 : decode cX10_spanOf 154 = .ok (.ifCond .lt 11, 3) := by decide +kernel
theorem dX10_spanOf_157 : decode cX10_spanOf 157 = .ok (.lload 10, 2) := by decide +kernel
theorem dX10_spanOf_159 : decode cX10_spanOf 159 = .ok (.lload 5, 2) := by decide +kernel
theorem dX10_spanOf_161 : decode cX10_spanOf 161 = .ok (.lcmp, 1) := by decide +kernel
theorem dX10_spanOf_162 : decode cX10_spanOf 162 = .ok (.ifCond .ge 8, 3) := by decide +kernel
theorem dX10_spanOf_165 : decode cX10_spanOf 165 = .ok (.lload 10, 2) := by decide +kernel
theorem dX10_spanOf_167 : decode cX10_spanOf 167 = .ok (.goto 5, 3) := by decide +kernel
theorem dX10_spanOf_170 : decode cX10_spanOf 170 = .ok (.lload 5, 2) := by decide +kernel
theorem dX10_spanOf_172 : decode cX10_spanOf 172 = .ok (.lstore 5, 2) := by decide +kernel
theorem dX10_spanOf_174 : decode cX10_spanOf 174 = .ok (.iinc 7 1, 3) := by decide +kernel
theorem dX10_spanOf_177 : decode cX10_spanOf 177 = .ok (.goto (-101), 3) := by decide +kernel
theorem dX10_spanOf_180 : decode cX10_spanOf 180 = .ok (.lload 5, 2) := by decide +kernel
theorem dX10_spanOf_182 : decode cX10_spanOf 182 = .ok (.lreturn, 1) := by decide +kernel
theorem dX10_first_0 : decode cX10_first 0 = .ok (.aload_n 0, 1) := by decide +kernel
theorem dX10_first_1 : decode cX10_first 1 = .ok (.iload_n 1, 1) := by decide +kernel
theorem dX10_first_2 : decode cX10_first 2 = .ok (.invokevirtual 109, 3) := by decide +kernel
theorem dX10_first_5 : decode cX10_first 5 = .ok (.ifCond .eq 9, 3) := by decide +kernel
theorem dX10_first_8 : decode cX10_first 8 = .ok (.lload_n 2, 1) := by decide +kernel
theorem dX10_first_9 : decode cX10_first 9 = .ok (.lconst 0, 1) := by decide +kernel
theorem dX10_first_10 : decode cX10_first 10 = .ok (.lcmp, 1) := by decide +kernel
theorem dX10_first_11 : decode cX10_first 11 = .ok (.ifCond .ge 9, 3) := by decide +kernel
theorem dX10_first_14 : decode cX10_first 14 = .ok (.aload_n 0, 1) := by decide +kernel
theorem dX10_first_15 : decode cX10_first 15 = .ok (.iconst (-1), 1) := by decide +kernel
theorem dX10_first_16 : decode cX10_first 16 = .ok (.invokevirtual 58, 3) := by decide +kernel
theorem dX10_first_19 : decode cX10_first 19 = .ok (.ireturn, 1) := by decide +kernel
theorem dX10_first_20 : decode cX10_first 20 = .ok (.lload_n 2, 1) := by decide +kernel
theorem dX10_first_21 : decode cX10_first 21 = .ok (.aload_n 0, 1) := by decide +kernel
theorem dX10_first_22 : decode cX10_first 22 = .ok (.iload_n 1, 1) := by decide +kernel
theorem dX10_first_23 : decode cX10_first 23 = .ok (.ldc2_w 62, 3) := by decide +kernel
theorem dX10_first_26 : decode cX10_first 26 = .ok (.invokevirtual 95, 3) := by decide +kernel
theorem dX10_first_29 : decode cX10_first 29 = .ok (.lcmp, 1) := by decide +kernel
theorem dX10_first_30 : decode cX10_first 30 = .ok (.ifCond .le 10, 3) := by decide +kernel
theorem dX10_first_33 : decode cX10_first 33 = .ok (.aload_n 0, 1) := by decide +kernel
theorem dX10_first_34 : decode cX10_first 34 = .ok (.bipush (-5), 2) := by decide +kernel
theorem dX10_first_36 : decode cX10_first 36 = .ok (.invokevirtual 58, 3) := by decide +kernel
theorem dX10_first_39 : decode cX10_first 39 = .ok (.ireturn, 1) := by decide +kernel
theorem dX10_first_40 : decode cX10_first 40 = .ok (.aload_n 0, 1) := by decide +kernel
theorem dX10_first_41 : decode cX10_first 41 = .ok (.aload_n 0, 1) := by decide +kernel
theorem dX10_first_42 : decode cX10_first 42 = .ok (.iload_n 1, 1) := by decide +kernel
theorem dX10_first_43 : decode cX10_first 43 = .ok (.lload_n 2, 1) := by decide +kernel
theorem dX10_first_44 : decode cX10_first 44 = .ok (.invokevirtual 144, 3) := by decide +kernel
theorem dX10_first_47 : decode cX10_first 47 = .ok (.l2i, 1) := by decide +kernel
theorem dX10_first_48 : decode cX10_first 48 = .ok (.invokevirtual 73, 3) := by decide +kernel
theorem dX10_first_51 : decode cX10_first 51 = .ok (.ireturn, 1) := by decide +kernel
theorem dX10_heap_0 : decode cX10_heap 0 = .ok (.aload_n 0, 1) := by decide +kernel
theorem dX10_heap_1 : decode cX10_heap 1 = .ok (.iload_n 1, 1) := by decide +kernel
theorem dX10_heap_2 : decode cX10_heap 2 = .ok (.invokevirtual 109, 3) := by decide +kernel
theorem dX10_heap_5 : decode cX10_heap 5 = .ok (.ifCond .eq 11, 3) := by decide +kernel
theorem dX10_heap_8 : decode cX10_heap 8 = .ok (.aload_n 0, 1) := by decide +kernel
theorem dX10_heap_9 : decode cX10_heap 9 = .ok (.iload_n 2, 1) := by decide +kernel
theorem dX10_heap_10 : decode cX10_heap 10 = .ok (.invokevirtual 109, 3) := by decide +kernel
theorem dX10_heap_13 : decode cX10_heap 13 = .ok (.ifCond .ne 9, 3) := by decide +kernel
theorem dX10_heap_16 : decode cX10_heap 16 = .ok (.aload_n 0, 1) := by decide +kernel
theorem dX10_heap_17 : decode cX10_heap 17 = .ok (.iconst (-1), 1) := by decide +kernel
theorem dX10_heap_18 : decode cX10_heap 18 = .ok (.invokevirtual 128, 3) := by decide +kernel
theorem dX10_heap_21 : decode cX10_heap 21 = .ok (.lreturn, 1) := by decide +kernel
theorem dX10_heap_22 : decode cX10_heap 22 = .ok (.aload_n 0, 1) := by decide +kernel
theorem dX10_heap_23 : decode cX10_heap 23 = .ok (.iload_n 1, 1) := by decide +kernel
theorem dX10_heap_24 : decode cX10_heap 24 = .ok (.iload_n 2, 1) := by decide +kernel
theorem dX10_heap_25 : decode cX10_heap 25 = .ok (.invokevirtual 113, 3) := by decide +kernel
theorem dX10_heap_28 : decode cX10_heap 28 = .ok (.istore_n 3, 1) := by decide +kernel
theorem dX10_heap_29 : decode cX10_heap 29 = .ok (.iload_n 3, 1) := by decide +kernel
theorem dX10_heap_30 : decode cX10_heap 30 = .ok (.bipush 60, 2) := by decide +kernel
theorem dX10_heap_32 : decode cX10_heap 32 = .ok (.if_icmp .le 10, 3) := by decide +kernel
theorem dX10_heap_35 : decode cX10_heap 35 = .ok (.aload_n 0, 1) := by decide +kernel
theorem dX10_heap_36 : decode cX10_heap 36 = .ok (.bipush (-4), 2) := by decide +kernel
theorem dX10_heap_38 : decode cX10_heap 38 = .ok (.invokevirtual 128, 3) := by decide +kernel
theorem dX10_heap_41 : decode cX10_heap 41 = .ok (.lreturn, 1) := by decide +kernel
theorem dX10_heap_42 : decode cX10_heap 42 = .ok (.aload_n 0, 1) := by decide +kernel
theorem dX10_heap_43 : decode cX10_heap 43 = .ok (.iload_n 1, 1) := by decide +kernel
theorem dX10_heap_44 : decode cX10_heap 44 = .ok (.iload_n 3, 1) := by decide +kernel
theorem dX10_heap_45 : decode cX10_heap 45 = .ok (.invokevirtual 116, 3) := by decide +kernel
theorem dX10_heap_48 : decode cX10_heap 48 = .ok (.aload_n 0, 1) := by decide +kernel
theorem dX10_heap_49 : decode cX10_heap 49 = .ok (.iload_n 2, 1) := by decide +kernel
theorem dX10_heap_50 : decode cX10_heap 50 = .ok (.iload_n 3, 1) := by decide +kernel
theorem dX10_heap_51 : decode cX10_heap 51 = .ok (.invokevirtual 116, 3) := by decide +kernel
theorem dX10_heap_54 : decode cX10_heap 54 = .ok (.lcmp, 1) := by decide +kernel
theorem dX10_heap_55 : decode cX10_heap 55 = .ok (.ifCond .le 10, 3) := by decide +kernel
theorem dX10_heap_58 : decode cX10_heap 58 = .ok (.aload_n 0, 1) := by decide +kernel
theorem dX10_heap_59 : decode cX10_heap 59 = .ok (.bipush (-5), 2) := by decide +kernel
theorem dX10_heap_61 : decode cX10_heap 61 = .ok (.invokevirtual 128, 3) := by decide +kernel
theorem dX10_heap_64 : decode cX10_heap 64 = .ok (.lreturn, 1) := by decide +kernel
theorem dX10_heap_65 : decode cX10_heap 65 = .ok (.aload_n 0, 1) := by decide +kernel
theorem dX10_heap_66 : decode cX10_heap 66 = .ok (.aload_n 0, 1) := by decide +kernel
theorem dX10_heap_67 : decode cX10_heap 67 = .ok (.iload_n 1, 1) := by decide +kernel
theorem dX10_heap_68 : decode cX10_heap 68 = .ok (.iload_n 2, 1) := by decide +kernel
theorem dX10_heap_69 : decode cX10_heap 69 = .ok (.iconst 0, 1) := by decide +kernel
theorem dX10_heap_70 : decode cX10_heap 70 = .ok (.iload_n 3, 1) := by decide +kernel
theorem dX10_heap_71 : decode cX10_heap 71 = .ok (.invokevirtual 103, 3) := by decide +kernel
theorem dX10_heap_74 : decode cX10_heap 74 = .ok (.invokevirtual 132, 3) := by decide +kernel
theorem dX10_heap_77 : decode cX10_heap 77 = .ok (.lreturn, 1) := by decide +kernel
theorem dX10_wait_0 : decode cX10_wait 0 = .ok (.aload_n 0, 1) := by decide +kernel
theorem dX10_wait_1 : decode cX10_wait 1 = .ok (.iload_n 1, 1) := by decide +kernel
theorem dX10_wait_2 : decode cX10_wait 2 = .ok (.invokevirtual 109, 3) := by decide +kernel
theorem dX10_wait_5 : decode cX10_wait 5 = .ok (.ifCond .eq 11, 3) := by decide +kernel
theorem dX10_wait_8 : decode cX10_wait 8 = .ok (.aload_n 0, 1) := by decide +kernel
theorem dX10_wait_9 : decode cX10_wait 9 = .ok (.iload_n 2, 1) := by decide +kernel
theorem dX10_wait_10 : decode cX10_wait 10 = .ok (.invokevirtual 109, 3) := by decide +kernel
theorem dX10_wait_13 : decode cX10_wait 13 = .ok (.ifCond .ne 9, 3) := by decide +kernel
theorem dX10_wait_16 : decode cX10_wait 16 = .ok (.aload_n 0, 1) := by decide +kernel
theorem dX10_wait_17 : decode cX10_wait 17 = .ok (.iconst (-1), 1) := by decide +kernel
theorem dX10_wait_18 : decode cX10_wait 18 = .ok (.invokevirtual 58, 3) := by decide +kernel
theorem dX10_wait_21 : decode cX10_wait 21 = .ok (.ireturn, 1) := by decide +kernel
theorem dX10_wait_22 : decode cX10_wait 22 = .ok (.aload_n 0, 1) := by decide +kernel
theorem dX10_wait_23 : decode cX10_wait 23 = .ok (.iload_n 1, 1) := by decide +kernel
theorem dX10_wait_24 : decode cX10_wait 24 = .ok (.iload_n 2, 1) := by decide +kernel
theorem dX10_wait_25 : decode cX10_wait 25 = .ok (.invokevirtual 113, 3) := by decide +kernel
theorem dX10_wait_28 : decode cX10_wait 28 = .ok (.istore_n 3, 1) := by decide +kernel
theorem dX10_wait_29 : decode cX10_wait 29 = .ok (.iload_n 3, 1) := by decide +kernel
theorem dX10_wait_30 : decode cX10_wait 30 = .ok (.bipush 60, 2) := by decide +kernel
theorem dX10_wait_32 : decode cX10_wait 32 = .ok (.if_icmp .le 10, 3) := by decide +kernel
theorem dX10_wait_35 : decode cX10_wait 35 = .ok (.aload_n 0, 1) := by decide +kernel
theorem dX10_wait_36 : decode cX10_wait 36 = .ok (.bipush (-4), 2) := by decide +kernel
theorem dX10_wait_38 : decode cX10_wait 38 = .ok (.invokevirtual 58, 3) := by decide +kernel
theorem dX10_wait_41 : decode cX10_wait 41 = .ok (.ireturn, 1) := by decide +kernel
theorem dX10_wait_42 : decode cX10_wait 42 = .ok (.aload_n 0, 1) := by decide +kernel
theorem dX10_wait_43 : decode cX10_wait 43 = .ok (.iload_n 1, 1) := by decide +kernel
theorem dX10_wait_44 : decode cX10_wait 44 = .ok (.iload_n 3, 1) := by decide +kernel
theorem dX10_wait_45 : decode cX10_wait 45 = .ok (.invokevirtual 116, 3) := by decide +kernel
theorem dX10_wait_48 : decode cX10_wait 48 = .ok (.aload_n 0, 1) := by decide +kernel
theorem dX10_wait_49 : decode cX10_wait 49 = .ok (.iload_n 2, 1) := by decide +kernel
theorem dX10_wait_50 : decode cX10_wait 50 = .ok (.iload_n 3, 1) := by decide +kernel
theorem dX10_wait_51 : decode cX10_wait 51 = .ok (.invokevirtual 116, 3) := by decide +kernel
theorem dX10_wait_54 : decode cX10_wait 54 = .ok (.lcmp, 1) := by decide +kernel
theorem dX10_wait_55 : decode cX10_wait 55 = .ok (.ifCond .le 10, 3) := by decide +kernel
theorem dX10_wait_58 : decode cX10_wait 58 = .ok (.aload_n 0, 1) := by decide +kernel
theorem dX10_wait_59 : decode cX10_wait 59 = .ok (.bipush (-5), 2) := by decide +kernel
theorem dX10_wait_61 : decode cX10_wait 61 = .ok (.invokevirtual 58, 3) := by decide +kernel
theorem dX10_wait_64 : decode cX10_wait 64 = .ok (.ireturn, 1) := by decide +kernel
theorem dX10_wait_65 : decode cX10_wait 65 = .ok (.lconst 0, 1) := by decide +kernel
theorem dX10_wait_66 : decode cX10_wait 66 = .ok (.lstore 4, 2) := by decide +kernel
theorem dX10_wait_68 : decode cX10_wait 68 = .ok (.iconst 0, 1) := by decide +kernel
theorem dX10_wait_69 : decode cX10_wait 69 = .ok (.istore 6, 2) := by decide +kernel
theorem dX10_wait_71 : decode cX10_wait 71 = .ok (.iload 6, 2) := by decide +kernel
theorem dX10_wait_73 : decode cX10_wait 73 = .ok (.sipush 200, 3) := by decide +kernel
theorem dX10_wait_76 : decode cX10_wait 76 = .ok (.iload_n 3, 1) := by decide +kernel
theorem dX10_wait_77 : decode cX10_wait 77 = .ok (.iadd, 1) := by decide +kernel
theorem dX10_wait_78 : decode cX10_wait 78 = .ok (.if_icmp .ge 63, 3) := by decide +kernel
theorem dX10_wait_81 : decode cX10_wait 81 = .ok (.aload_n 0, 1) := by decide +kernel
theorem dX10_wait_82 : decode cX10_wait 82 = .ok (.iload_n 2, 1) := by decide +kernel
theorem dX10_wait_83 : decode cX10_wait 83 = .ok (.aload_n 0, 1) := by decide +kernel
theorem dX10_wait_84 : decode cX10_wait 84 = .ok (.iload_n 1, 1) := by decide +kernel
theorem dX10_wait_85 : decode cX10_wait 85 = .ok (.iload 6, 2) := by decide +kernel
theorem dX10_wait_87 : decode cX10_wait 87 = .ok (.i2l, 1) := by decide +kernel
theorem dX10_wait_88 : decode cX10_wait 88 = .ok (.invokevirtual 95, 3) := by decide +kernel
theorem dX10_wait_91 : decode cX10_wait 91 = .ok (.invokevirtual 144, 3) := by decide +kernel
theorem dX10_wait_94 : decode cX10_wait 94 = .ok (.lstore 7, 2) := by decide +kernel
theorem dX10_wait_96 : decode cX10_wait 96 = .ok (.lload 7, 2) := by decide +kernel
theorem dX10_wait_98 : decode cX10_wait 98 = .ok (.lconst 0, 1) := by decide +kernel
theorem dX10_wait_99 : decode cX10_wait 99 = .ok (.lcmp, 1) := by decide +kernel
theorem dX10_wait_100 : decode cX10_wait 100 = .ok (.ifCond .ge 10, 3) := by decide +kernel
theorem dX10_wait_103 : decode cX10_wait 103 = .ok (.aload_n 0, 1) := by decide +kernel
theorem dX10_wait_104 : decode cX10_wait 104 = .ok (.bipush (-5), 2) := by decide +kernel
theorem dX10_wait_106 : decode cX10_wait 106 = .ok (.invokevirtual 58, 3) := by decide +kernel
theorem dX10_wait_109 : decode cX10_wait 109 = .ok (.ireturn, 1) := by decide +kernel
theorem dX10_wait_110 : decode cX10_wait 110 = .ok (.lload 7, 2) := by decide +kernel
theorem dX10_wait_112 : decode cX10_wait 112 = .ok (.iload 6, 2) := by decide +kernel
theorem dX10_wait_114 : decode cX10_wait 114 = .ok (.i2l, 1) := by decide +kernel
theorem dX10_wait_115 : decode cX10_wait 115 = .ok (.lsub, 1) := by decide +kernel
theorem dX10_wait_116 : decode cX10_wait 116 = .ok (.lload 4, 2) := by decide +kernel
theorem dX10_wait_118 : decode cX10_wait 118 = .ok (.lcmp, 1) := by decide +kernel
theorem dX10_wait_119 : decode cX10_wait 119 = .ok (.ifCond .le 12, 3) := by decide +kernel
theorem dX10_wait_122 : decode cX10_wait 122 = .ok (.lload 7, 2) := by decide +kernel
theorem dX10_wait_124 : decode cX10_wait 124 = .ok (.iload 6, 2) := by decide +kernel
theorem dX10_wait_126 : decode cX10_wait 126 = .ok (.i2l, 1) := by decide +kernel
theorem dX10_wait_127 : decode cX10_wait 127 = .ok (.lsub, 1) := by decide +kernel
theorem dX10_wait_128 : decode cX10_wait 128 = .ok (.goto 5, 3) := by decide +kernel
theorem dX10_wait_131 : decode cX10_wait 131 = .ok (.lload 4, 2) := by decide +kernel
theorem dX10_wait_133 : decode cX10_wait 133 = .ok (.lstore 4, 2) := by decide +kernel
theorem dX10_wait_135 : decode cX10_wait 135 = .ok (.iinc 6 1, 3) := by decide +kernel
theorem dX10_wait_138 : decode cX10_wait 138 = .ok (.goto (-67), 3) := by decide +kernel
theorem dX10_wait_141 : decode cX10_wait 141 = .ok (.lload 4, 2) := by decide +kernel
theorem dX10_wait_143 : decode cX10_wait 143 = .ok (.ldc2_w 62, 3) := by decide +kernel
theorem dX10_wait_146 : decode cX10_wait 146 = .ok (.lcmp, 1) := by decide +kernel
theorem dX10_wait_147 : decode cX10_wait 147 = .ok (.ifCond .le 12, 3) := by decide +kernel
theorem dX10_wait_150 : decode cX10_wait 150 = .ok (.aload_n 0, 1) := by decide +kernel
theorem dX10_wait_151 : decode cX10_wait 151 = .ok (.bipush (-5), 2) := by decide +kernel
theorem dX10_wait_153 : decode cX10_wait 153 = .ok (.invokevirtual 58, 3) := by decide +kernel
theorem dX10_wait_156 : decode cX10_wait 156 = .ok (.goto 10, 3) := by decide +kernel
theorem dX10_wait_159 : decode cX10_wait 159 = .ok (.aload_n 0, 1) := by decide +kernel
theorem dX10_wait_160 : decode cX10_wait 160 = .ok (.lload 4, 2) := by decide +kernel
theorem dX10_wait_162 : decode cX10_wait 162 = .ok (.l2i, 1) := by decide +kernel
theorem dX10_wait_163 : decode cX10_wait 163 = .ok (.invokevirtual 73, 3) := by decide +kernel
theorem dX10_wait_166 : decode cX10_wait 166 = .ok (.ireturn, 1) := by decide +kernel
theorem dX10_come_0 : decode cX10_come 0 = .ok (.iload_n 1, 1) := by decide +kernel
theorem dX10_come_1 : decode cX10_come 1 = .ok (.i2l, 1) := by decide +kernel
theorem dX10_come_2 : decode cX10_come 2 = .ok (.lconst 0, 1) := by decide +kernel
theorem dX10_come_3 : decode cX10_come 3 = .ok (.ldc2_w 62, 3) := by decide +kernel
theorem dX10_come_6 : decode cX10_come 6 = .ok (.invokestatic 50, 3) := by decide +kernel
theorem dX10_come_9 : decode cX10_come 9 = .ok (.ifCond .ne 9, 3) := by decide +kernel
theorem dX10_come_12 : decode cX10_come 12 = .ok (.aload_n 0, 1) := by decide +kernel
theorem dX10_come_13 : decode cX10_come 13 = .ok (.iconst (-1), 1) := by decide +kernel
theorem dX10_come_14 : decode cX10_come 14 = .ok (.invokevirtual 58, 3) := by decide +kernel
theorem dX10_come_17 : decode cX10_come 17 = .ok (.ireturn, 1) := by decide +kernel
theorem dX10_come_18 : decode cX10_come 18 = .ok (.aload_n 0, 1) := by decide +kernel
theorem dX10_come_19 : decode cX10_come 19 = .ok (.getfield 147, 3) := by decide +kernel
theorem dX10_come_22 : decode cX10_come 22 = .ok (.bipush 60, 2) := by decide +kernel
theorem dX10_come_24 : decode cX10_come 24 = .ok (.if_icmp .ne 10, 3) := by decide +kernel
theorem dX10_come_27 : decode cX10_come 27 = .ok (.aload_n 0, 1) := by decide +kernel
theorem dX10_come_28 : decode cX10_come 28 = .ok (.bipush (-3), 2) := by decide +kernel
theorem dX10_come_30 : decode cX10_come 30 = .ok (.invokevirtual 58, 3) := by decide +kernel
theorem dX10_come_33 : decode cX10_come 33 = .ok (.ireturn, 1) := by decide +kernel
theorem dX10_come_34 : decode cX10_come 34 = .ok (.aload_n 0, 1) := by decide +kernel
theorem dX10_come_35 : decode cX10_come 35 = .ok (.getfield 29, 3) := by decide +kernel
theorem dX10_come_38 : decode cX10_come 38 = .ok (.aload_n 0, 1) := by decide +kernel
theorem dX10_come_39 : decode cX10_come 39 = .ok (.getfield 147, 3) := by decide +kernel
theorem dX10_come_42 : decode cX10_come 42 = .ok (.iload_n 1, 1) := by decide +kernel
theorem dX10_come_43 : decode cX10_come 43 = .ok (.i2l, 1) := by decide +kernel
theorem dX10_come_44 : decode cX10_come 44 = .ok (.lastore, 1) := by decide +kernel
theorem dX10_come_45 : decode cX10_come 45 = .ok (.aload_n 0, 1) := by decide +kernel
theorem dX10_come_46 : decode cX10_come 46 = .ok (.dup, 1) := by decide +kernel
theorem dX10_come_47 : decode cX10_come 47 = .ok (.getfield 147, 3) := by decide +kernel
theorem dX10_come_50 : decode cX10_come 50 = .ok (.iconst 1, 1) := by decide +kernel
theorem dX10_come_51 : decode cX10_come 51 = .ok (.iadd, 1) := by decide +kernel
theorem dX10_come_52 : decode cX10_come 52 = .ok (.putfield 147, 3) := by decide +kernel
theorem dX10_come_55 : decode cX10_come 55 = .ok (.aload_n 0, 1) := by decide +kernel
theorem dX10_come_56 : decode cX10_come 56 = .ok (.aload_n 0, 1) := by decide +kernel
theorem dX10_come_57 : decode cX10_come 57 = .ok (.getfield 147, 3) := by decide +kernel
theorem dX10_come_60 : decode cX10_come 60 = .ok (.invokevirtual 73, 3) := by decide +kernel
theorem dX10_come_63 : decode cX10_come 63 = .ok (.ireturn, 1) := by decide +kernel
theorem dX10_hardest_0 : decode cX10_hardest 0 = .ok (.aload_n 0, 1) := by decide +kernel
theorem dX10_hardest_1 : decode cX10_hardest 1 = .ok (.iload_n 1, 1) := by decide +kernel
theorem dX10_hardest_2 : decode cX10_hardest 2 = .ok (.invokevirtual 109, 3) := by decide +kernel
theorem dX10_hardest_5 : decode cX10_hardest 5 = .ok (.ifCond .eq 15, 3) := by decide +kernel
theorem dX10_hardest_8 : decode cX10_hardest 8 = .ok (.iload_n 2, 1) := by decide +kernel
theorem dX10_hardest_9 : decode cX10_hardest 9 = .ok (.i2l, 1) := by decide +kernel
theorem dX10_hardest_10 : decode cX10_hardest 10 = .ok (.lconst 0, 1) := by decide +kernel
theorem dX10_hardest_11 : decode cX10_hardest 11 = .ok (.ldc2_w 85, 3) := by decide +kernel
theorem dX10_hardest_14 : decode cX10_hardest 14 = .ok (.invokestatic 50, 3) := by decide +kernel
theorem dX10_hardest_17 : decode cX10_hardest 17 = .ok (.ifCond .ne 9, 3) := by decide +kernel
theorem dX10_hardest_20 : decode cX10_hardest 20 = .ok (.aload_n 0, 1) := by decide +kernel
theorem dX10_hardest_21 : decode cX10_hardest 21 = .ok (.iconst (-1), 1) := by decide +kernel
theorem dX10_hardest_22 : decode cX10_hardest 22 = .ok (.invokevirtual 58, 3) := by decide +kernel
theorem dX10_hardest_25 : decode cX10_hardest 25 = .ok (.ireturn, 1) := by decide +kernel
theorem dX10_hardest_26 : decode cX10_hardest 26 = .ok (.iconst 1, 1) := by decide +kernel
theorem dX10_hardest_27 : decode cX10_hardest 27 = .ok (.istore_n 3, 1) := by decide +kernel
theorem dX10_hardest_28 : decode cX10_hardest 28 = .ok (.iload_n 3, 1) := by decide +kernel
theorem dX10_hardest_29 : decode cX10_hardest 29 = .ok (.iload_n 2, 1) := by decide +kernel
theorem dX10_hardest_30 : decode cX10_hardest 30 = .ok (.if_icmp .gt 48, 3) := by decide +kernel
theorem dX10_hardest_33 : decode cX10_hardest 33 = .ok (.aload_n 0, 1) := by decide +kernel
theorem dX10_hardest_34 : decode cX10_hardest 34 = .ok (.iload_n 1, 1) := by decide +kernel
theorem dX10_hardest_35 : decode cX10_hardest 35 = .ok (.iload_n 3, 1) := by decide +kernel
theorem dX10_hardest_36 : decode cX10_hardest 36 = .ok (.i2l, 1) := by decide +kernel
theorem dX10_hardest_37 : decode cX10_hardest 37 = .ok (.invokevirtual 95, 3) := by decide +kernel
theorem dX10_hardest_40 : decode cX10_hardest 40 = .ok (.iload_n 3, 1) := by decide +kernel
theorem dX10_hardest_41 : decode cX10_hardest 41 = .ok (.iconst 1, 1) := by decide +kernel
theorem dX10_hardest_42 : decode cX10_hardest 42 = .ok (.if_icmp .ne 7, 3) := by decide +kernel
theorem dX10_hardest_45 : decode cX10_hardest 45 = .ok (.lconst 0, 1) := by decide +kernel
theorem dX10_hardest_46 : decode cX10_hardest 46 = .ok (.goto 12, 3) := by decide +kernel
theorem dX10_hardest_49 : decode cX10_hardest 49 = .ok (.aload_n 0, 1) := by decide +kernel
theorem dX10_hardest_50 : decode cX10_hardest 50 = .ok (.iload_n 1, 1) := by decide +kernel
theorem dX10_hardest_51 : decode cX10_hardest 51 = .ok (.iload_n 3, 1) := by decide +kernel
theorem dX10_hardest_52 : decode cX10_hardest 52 = .ok (.iconst 1, 1) := by decide +kernel
theorem dX10_hardest_53 : decode cX10_hardest 53 = .ok (.isub, 1) := by decide +kernel
theorem dX10_hardest_54 : decode cX10_hardest 54 = .ok (.i2l, 1) := by decide +kernel
theorem dX10_hardest_55 : decode cX10_hardest 55 = .ok (.invokevirtual 95, 3) := by decide +kernel
theorem dX10_hardest_58 : decode cX10_hardest 58 = .ok (.lsub, 1) := by decide +kernel
theorem dX10_hardest_59 : decode cX10_hardest 59 = .ok (.ldc2_w 62, 3) := by decide +kernel
theorem dX10_hardest_62 : decode cX10_hardest 62 = .ok (.lcmp, 1) := by decide +kernel
theorem dX10_hardest_63 : decode cX10_hardest 63 = .ok (.ifCond .le 9, 3) := by decide +kernel
theorem dX10_hardest_66 : decode cX10_hardest 66 = .ok (.aload_n 0, 1) := by decide +kernel
theorem dX10_hardest_67 : decode cX10_hardest 67 = .ok (.iconst (-1), 1) := by decide +kernel
theorem dX10_hardest_68 : decode cX10_hardest 68 = .ok (.invokevirtual 58, 3) := by decide +kernel
theorem dX10_hardest_71 : decode cX10_hardest 71 = .ok (.ireturn, 1) := by decide +kernel
theorem dX10_hardest_72 : decode cX10_hardest 72 = .ok (.iinc 3 1, 3) := by decide +kernel
theorem dX10_hardest_75 : decode cX10_hardest 75 = .ok (.goto (-47), 3) := by decide +kernel
theorem dX10_hardest_78 : decode cX10_hardest 78 = .ok (.iconst 1, 1) := by decide +kernel
theorem dX10_hardest_79 : decode cX10_hardest 79 = .ok (.istore_n 3, 1) := by decide +kernel
theorem dX10_hardest_80 : decode cX10_hardest 80 = .ok (.iload_n 3, 1) := by decide +kernel
theorem dX10_hardest_81 : decode cX10_hardest 81 = .ok (.iload_n 2, 1) := by decide +kernel
theorem dX10_hardest_82 : decode cX10_hardest 82 = .ok (.if_icmp .gt 43, 3) := by decide +kernel
theorem dX10_hardest_85 : decode cX10_hardest 85 = .ok (.aload_n 0, 1) := by decide +kernel
theorem dX10_hardest_86 : decode cX10_hardest 86 = .ok (.getfield 29, 3) := by decide +kernel
theorem dX10_hardest_89 : decode cX10_hardest 89 = .ok (.iload_n 3, 1) := by decide +kernel
theorem dX10_hardest_90 : decode cX10_hardest 90 = .ok (.iconst 1, 1) := by decide +kernel
theorem dX10_hardest_91 : decode cX10_hardest 91 = .ok (.isub, 1) := by decide +kernel
theorem dX10_hardest_92 : decode cX10_hardest 92 = .ok (.aload_n 0, 1) := by decide +kernel
theorem dX10_hardest_93 : decode cX10_hardest 93 = .ok (.iload_n 1, 1) := by decide +kernel
theorem dX10_hardest_94 : decode cX10_hardest 94 = .ok (.iload_n 3, 1) := by decide +kernel
theorem dX10_hardest_95 : decode cX10_hardest 95 = .ok (.i2l, 1) := by decide +kernel
theorem dX10_hardest_96 : decode cX10_hardest 96 = .ok (.invokevirtual 95, 3) := by decide +kernel
theorem dX10_hardest_99 : decode cX10_hardest 99 = .ok (.iload_n 3, 1) := by decide +kernel
theorem dX10_hardest_100 : decode cX10_hardest 100 = .ok (.iconst 1, 1) := by decide +kernel
theorem dX10_hardest_101 : decode cX10_hardest 101 = .ok (.if_icmp .ne 7, 3) := by decide +kernel
theorem dX10_hardest_104 : decode cX10_hardest 104 = .ok (.lconst 0, 1) := by decide +kernel
theorem dX10_hardest_105 : decode cX10_hardest 105 = .ok (.goto 12, 3) := by decide +kernel
theorem dX10_hardest_108 : decode cX10_hardest 108 = .ok (.aload_n 0, 1) := by decide +kernel
theorem dX10_hardest_109 : decode cX10_hardest 109 = .ok (.iload_n 1, 1) := by decide +kernel
theorem dX10_hardest_110 : decode cX10_hardest 110 = .ok (.iload_n 3, 1) := by decide +kernel
theorem dX10_hardest_111 : decode cX10_hardest 111 = .ok (.iconst 1, 1) := by decide +kernel
theorem dX10_hardest_112 : decode cX10_hardest 112 = .ok (.isub, 1) := by decide +kernel
theorem dX10_hardest_113 : decode cX10_hardest 113 = .ok (.i2l, 1) := by decide +kernel
theorem dX10_hardest_114 : decode cX10_hardest 114 = .ok (.invokevirtual 95, 3) := by decide +kernel
theorem dX10_hardest_117 : decode cX10_hardest 117 = .ok (.lsub, 1) := by decide +kernel
theorem dX10_hardest_118 : decode cX10_hardest 118 = .ok (.lastore, 1) := by decide +kernel
theorem dX10_hardest_119 : decode cX10_hardest 119 = .ok (.iinc 3 1, 3) := by decide +kernel
theorem dX10_hardest_122 : decode cX10_hardest 122 = .ok (.goto (-42), 3) := by decide +kernel
theorem dX10_hardest_125 : decode cX10_hardest 125 = .ok (.aload_n 0, 1) := by decide +kernel
theorem dX10_hardest_126 : decode cX10_hardest 126 = .ok (.iload_n 2, 1) := by decide +kernel
theorem dX10_hardest_127 : decode cX10_hardest 127 = .ok (.putfield 147, 3) := by decide +kernel
theorem dX10_hardest_130 : decode cX10_hardest 130 = .ok (.aload_n 0, 1) := by decide +kernel
theorem dX10_hardest_131 : decode cX10_hardest 131 = .ok (.iload_n 2, 1) := by decide +kernel
theorem dX10_hardest_132 : decode cX10_hardest 132 = .ok (.invokevirtual 73, 3) := by decide +kernel
theorem dX10_hardest_135 : decode cX10_hardest 135 = .ok (.ireturn, 1) := by decide +kernel
theorem dX10_stop_0 : decode cX10_stop 0 = .ok (.aload_n 0, 1) := by decide +kernel
theorem dX10_stop_1 : decode cX10_stop 1 = .ok (.getfield 147, 3) := by decide +kernel
theorem dX10_stop_4 : decode cX10_stop 4 = .ok (.istore_n 1, 1) := by decide +kernel
theorem dX10_stop_5 : decode cX10_stop 5 = .ok (.aload_n 0, 1) := by decide +kernel
theorem dX10_stop_6 : decode cX10_stop 6 = .ok (.iconst 0, 1) := by decide +kernel
theorem dX10_stop_7 : decode cX10_stop 7 = .ok (.putfield 147, 3) := by decide +kernel
theorem dX10_stop_10 : decode cX10_stop 10 = .ok (.aload_n 0, 1) := by decide +kernel
theorem dX10_stop_11 : decode cX10_stop 11 = .ok (.iload_n 1, 1) := by decide +kernel
theorem dX10_stop_12 : decode cX10_stop 12 = .ok (.invokevirtual 73, 3) := by decide +kernel
theorem dX10_stop_15 : decode cX10_stop 15 = .ok (.ireturn, 1) := by decide +kernel
theorem dX10_serve_0 : decode cX10_serve 0 = .ok (.aload_n 0, 1) := by decide +kernel
theorem dX10_serve_1 : decode cX10_serve 1 = .ok (.iload_n 1, 1) := by decide +kernel
theorem dX10_serve_2 : decode cX10_serve 2 = .ok (.invokevirtual 109, 3) := by decide +kernel
theorem dX10_serve_5 : decode cX10_serve 5 = .ok (.ifCond .ne 9, 3) := by decide +kernel
theorem dX10_serve_8 : decode cX10_serve 8 = .ok (.aload_n 0, 1) := by decide +kernel
theorem dX10_serve_9 : decode cX10_serve 9 = .ok (.iconst (-1), 1) := by decide +kernel
theorem dX10_serve_10 : decode cX10_serve 10 = .ok (.invokevirtual 58, 3) := by decide +kernel
theorem dX10_serve_13 : decode cX10_serve 13 = .ok (.ireturn, 1) := by decide +kernel
theorem dX10_serve_14 : decode cX10_serve 14 = .ok (.aload_n 0, 1) := by decide +kernel
theorem dX10_serve_15 : decode cX10_serve 15 = .ok (.iload_n 1, 1) := by decide +kernel
theorem dX10_serve_16 : decode cX10_serve 16 = .ok (.putfield 32, 3) := by decide +kernel
theorem dX10_serve_19 : decode cX10_serve 19 = .ok (.aload_n 0, 1) := by decide +kernel
theorem dX10_serve_20 : decode cX10_serve 20 = .ok (.iconst 1, 1) := by decide +kernel
theorem dX10_serve_21 : decode cX10_serve 21 = .ok (.invokevirtual 73, 3) := by decide +kernel
theorem dX10_serve_24 : decode cX10_serve 24 = .ok (.ireturn, 1) := by decide +kernel
theorem dX10_came_0 : decode cX10_came 0 = .ok (.lconst 0, 1) := by decide +kernel
theorem dX10_came_1 : decode cX10_came 1 = .ok (.lstore_n 2, 1) := by decide +kernel
theorem dX10_came_2 : decode cX10_came 2 = .ok (.iconst 0, 1) := by decide +kernel
theorem dX10_came_3 : decode cX10_came 3 = .ok (.istore 4, 2) := by decide +kernel
theorem dX10_came_5 : decode cX10_came 5 = .ok (.iload 4, 2) := by decide +kernel
theorem dX10_came_7 : decode cX10_came 7 = .ok (.iload_n 1, 1) := by decide +kernel
theorem dX10_came_8 : decode cX10_came 8 = .ok (.if_icmp .ge 28, 3) := by decide +kernel
theorem dX10_came_11 : decode cX10_came 11 = .ok (.iload 4, 2) := by decide +kernel
theorem dX10_came_13 : decode cX10_came 13 = .ok (.aload_n 0, 1) := by decide +kernel
theorem dX10_came_14 : decode cX10_came 14 = .ok (.getfield 147, 3) := by decide +kernel
theorem dX10_came_17 : decode cX10_came 17 = .ok (.if_icmp .ge 19, 3) := by decide +kernel
theorem dX10_came_20 : decode cX10_came 20 = .ok (.lload_n 2, 1) := by decide +kernel
theorem dX10_came_21 : decode cX10_came 21 = .ok (.aload_n 0, 1) := by decide +kernel
theorem dX10_came_22 : decode cX10_came 22 = .ok (.getfield 29, 3) := by decide +kernel
theorem dX10_came_25 : decode cX10_came 25 = .ok (.iload 4, 2) := by decide +kernel
theorem dX10_came_27 : decode cX10_came 27 = .ok (.laload, 1) := by decide +kernel
theorem dX10_came_28 : decode cX10_came 28 = .ok (.ladd, 1) := by decide +kernel
theorem dX10_came_29 : decode cX10_came 29 = .ok (.lstore_n 2, 1) := by decide +kernel
theorem dX10_came_30 : decode cX10_came 30 = .ok (.iinc 4 1, 3) := by decide +kernel
theorem dX10_came_33 : decode cX10_came 33 = .ok (.goto (-28), 3) := by decide +kernel
theorem dX10_came_36 : decode cX10_came 36 = .ok (.lload_n 2, 1) := by decide +kernel
theorem dX10_came_37 : decode cX10_came 37 = .ok (.lreturn, 1) := by decide +kernel
theorem dX10_served_0 : decode cX10_served 0 = .ok (.aload_n 0, 1) := by decide +kernel
theorem dX10_served_1 : decode cX10_served 1 = .ok (.iload_n 1, 1) := by decide +kernel
theorem dX10_served_2 : decode cX10_served 2 = .ok (.invokevirtual 150, 3) := by decide +kernel
theorem dX10_served_5 : decode cX10_served 5 = .ok (.lstore_n 2, 1) := by decide +kernel
theorem dX10_served_6 : decode cX10_served 6 = .ok (.lconst 0, 1) := by decide +kernel
theorem dX10_served_7 : decode cX10_served 7 = .ok (.lstore 4, 2) := by decide +kernel
theorem dX10_served_9 : decode cX10_served 9 = .ok (.iconst 0, 1) := by decide +kernel
theorem dX10_served_10 : decode cX10_served 10 = .ok (.istore 6, 2) := by decide +kernel
theorem dX10_served_12 : decode cX10_served 12 = .ok (.iload 6, 2) := by decide +kernel
theorem dX10_served_14 : decode cX10_served 14 = .ok (.iload_n 1, 1) := by decide +kernel
theorem dX10_served_15 : decode cX10_served 15 = .ok (.if_icmp .gt 66, 3) := by decide +kernel
theorem dX10_served_18 : decode cX10_served 18 = .ok (.lload 4, 2) := by decide +kernel
theorem dX10_served_20 : decode cX10_served 20 = .ok (.aload_n 0, 1) := by decide +kernel
theorem dX10_served_21 : decode cX10_served 21 = .ok (.aload_n 0, 1) := by decide +kernel
theorem dX10_served_22 : decode cX10_served 22 = .ok (.getfield 32, 3) := by decide +kernel
theorem dX10_served_25 : decode cX10_served 25 = .ok (.iload_n 1, 1) := by decide +kernel
theorem dX10_served_26 : decode cX10_served 26 = .ok (.iload 6, 2) := by decide +kernel
theorem dX10_served_28 : decode cX10_served 28 = .ok (.isub, 1) := by decide +kernel
theorem dX10_served_29 : decode cX10_served 29 = .ok (.i2l, 1) := by decide +kernel
theorem dX10_served_30 : decode cX10_served 30 = .ok (.invokevirtual 95, 3) := by decide +kernel
theorem dX10_served_33 : decode cX10_served 33 = .ok (.ladd, 1) := by decide +kernel
theorem dX10_served_34 : decode cX10_served 34 = .ok (.lstore 7, 2) := by decide +kernel
theorem dX10_served_36 : decode cX10_served 36 = .ok (.lload 7, 2) := by decide +kernel
theorem dX10_served_38 : decode cX10_served 38 = .ok (.lload_n 2, 1) := by decide +kernel
theorem dX10_served_39 : decode cX10_served 39 = .ok (.lcmp, 1) := by decide +kernel
theorem dX10_served_40 : decode cX10_served 40 = .ok (.ifCond .ge 8, 3) := by decide +kernel
theorem dX10_served_43 : decode cX10_served 43 = .ok (.lload 7, 2) := by decide +kernel
theorem dX10_served_45 : decode cX10_served 45 = .ok (.goto 4, 3) := by decide +kernel
theorem dX10_served_48 : decode cX10_served 48 = .ok (.lload_n 2, 1) := by decide +kernel
theorem dX10_served_49 : decode cX10_served 49 = .ok (.lstore_n 2, 1) := by decide +kernel
theorem dX10_served_50 : decode cX10_served 50 = .ok (.lload 4, 2) := by decide +kernel
theorem dX10_served_52 : decode cX10_served 52 = .ok (.iload 6, 2) := by decide +kernel
theorem dX10_served_54 : decode cX10_served 54 = .ok (.aload_n 0, 1) := by decide +kernel
theorem dX10_served_55 : decode cX10_served 55 = .ok (.getfield 147, 3) := by decide +kernel
theorem dX10_served_58 : decode cX10_served 58 = .ok (.if_icmp .ge 13, 3) := by decide +kernel
theorem dX10_served_61 : decode cX10_served 61 = .ok (.aload_n 0, 1) := by decide +kernel
theorem dX10_served_62 : decode cX10_served 62 = .ok (.getfield 29, 3) := by decide +kernel
theorem dX10_served_65 : decode cX10_served 65 = .ok (.iload 6, 2) := by decide +kernel
theorem dX10_served_67 : decode cX10_served 67 = .ok (.laload, 1) := by decide +kernel
theorem dX10_served_68 : decode cX10_served 68 = .ok (.goto 4, 3) := by decide +kernel
theorem dX10_served_71 : decode cX10_served 71 = .ok (.lconst 0, 1) := by decide +kernel
theorem dX10_served_72 : decode cX10_served 72 = .ok (.ladd, 1) := by decide +kernel
theorem dX10_served_73 : decode cX10_served 73 = .ok (.lstore 4, 2) := by decide +kernel
theorem dX10_served_75 : decode cX10_served 75 = .ok (.iinc 6 1, 3) := by decide +kernel
theorem dX10_served_78 : decode cX10_served 78 = .ok (.goto (-66), 3) := by decide +kernel
theorem dX10_served_81 : decode cX10_served 81 = .ok (.lload_n 2, 1) := by decide +kernel
theorem dX10_served_82 : decode cX10_served 82 = .ok (.lreturn, 1) := by decide +kernel
theorem dX10_moved_0 : decode cX10_moved 0 = .ok (.iload_n 1, 1) := by decide +kernel
theorem dX10_moved_1 : decode cX10_moved 1 = .ok (.i2l, 1) := by decide +kernel
theorem dX10_moved_2 : decode cX10_moved 2 = .ok (.lconst 0, 1) := by decide +kernel
theorem dX10_moved_3 : decode cX10_moved 3 = .ok (.ldc2_w 153, 3) := by decide +kernel
theorem dX10_moved_6 : decode cX10_moved 6 = .ok (.invokestatic 50, 3) := by decide +kernel
theorem dX10_moved_9 : decode cX10_moved 9 = .ok (.ifCond .eq 15, 3) := by decide +kernel
theorem dX10_moved_12 : decode cX10_moved 12 = .ok (.iload_n 2, 1) := by decide +kernel
theorem dX10_moved_13 : decode cX10_moved 13 = .ok (.i2l, 1) := by decide +kernel
theorem dX10_moved_14 : decode cX10_moved 14 = .ok (.lconst 0, 1) := by decide +kernel
theorem dX10_moved_15 : decode cX10_moved 15 = .ok (.ldc2_w 155, 3) := by decide +kernel
theorem dX10_moved_18 : decode cX10_moved 18 = .ok (.invokestatic 50, 3) := by decide +kernel
theorem dX10_moved_21 : decode cX10_moved 21 = .ok (.ifCond .ne 9, 3) := by decide +kernel
theorem dX10_moved_24 : decode cX10_moved 24 = .ok (.aload_n 0, 1) := by decide +kernel
theorem dX10_moved_25 : decode cX10_moved 25 = .ok (.iconst (-1), 1) := by decide +kernel
theorem dX10_moved_26 : decode cX10_moved 26 = .ok (.invokevirtual 128, 3) := by decide +kernel
theorem dX10_moved_29 : decode cX10_moved 29 = .ok (.lreturn, 1) := by decide +kernel
theorem dX10_moved_30 : decode cX10_moved 30 = .ok (.iload_n 1, 1) := by decide +kernel
theorem dX10_moved_31 : decode cX10_moved 31 = .ok (.ifCond .le 17, 3) := by decide +kernel
theorem dX10_moved_34 : decode cX10_moved 34 = .ok (.aload_n 0, 1) := by decide +kernel
theorem dX10_moved_35 : decode cX10_moved 35 = .ok (.getfield 32, 3) := by decide +kernel
theorem dX10_moved_38 : decode cX10_moved 38 = .ok (.ifCond .ge 10, 3) := by decide +kernel
theorem dX10_moved_41 : decode cX10_moved 41 = .ok (.aload_n 0, 1) := by decide +kernel
theorem dX10_moved_42 : decode cX10_moved 42 = .ok (.bipush (-2), 2) := by decide +kernel
theorem dX10_moved_44 : decode cX10_moved 44 = .ok (.invokevirtual 128, 3) := by decide +kernel
theorem dX10_moved_47 : decode cX10_moved 47 = .ok (.lreturn, 1) := by decide +kernel
theorem dX10_moved_48 : decode cX10_moved 48 = .ok (.aload_n 0, 1) := by decide +kernel
theorem dX10_moved_49 : decode cX10_moved 49 = .ok (.iload_n 1, 1) := by decide +kernel
theorem dX10_moved_50 : decode cX10_moved 50 = .ok (.ifCond .ne 11, 3) := by decide +kernel
theorem dX10_moved_53 : decode cX10_moved 53 = .ok (.aload_n 0, 1) := by decide +kernel
theorem dX10_moved_54 : decode cX10_moved 54 = .ok (.iload_n 2, 1) := by decide +kernel
theorem dX10_moved_55 : decode cX10_moved 55 = .ok (.invokevirtual 150, 3) := by decide +kernel
theorem dX10_moved_58 : decode cX10_moved 58 = .ok (.goto 27, 3) := by decide +kernel
theorem dX10_moved_61 : decode cX10_moved 61 = .ok (.iload_n 1, 1) := by decide +kernel
theorem dX10_moved_62 : decode cX10_moved 62 = .ok (.iconst 1, 1) := by decide +kernel
theorem dX10_moved_63 : decode cX10_moved 63 = .ok (.if_icmp .ne 11, 3) := by decide +kernel
theorem dX10_moved_66 : decode cX10_moved 66 = .ok (.aload_n 0, 1) := by decide +kernel
theorem dX10_moved_67 : decode cX10_moved 67 = .ok (.iload_n 2, 1) := by decide +kernel
theorem dX10_moved_68 : decode cX10_moved 68 = .ok (.invokevirtual 157, 3) := by decide +kernel
theorem dX10_moved_71 : decode cX10_moved 71 = .ok (.goto 14, 3) := by decide +kernel
theorem dX10_moved_74 : decode cX10_moved 74 = .ok (.aload_n 0, 1) := by decide +kernel
theorem dX10_moved_75 : decode cX10_moved 75 = .ok (.iload_n 2, 1) := by decide +kernel
theorem dX10_moved_76 : decode cX10_moved 76 = .ok (.invokevirtual 150, 3) := by decide +kernel
theorem dX10_moved_79 : decode cX10_moved 79 = .ok (.aload_n 0, 1) := by decide +kernel
theorem dX10_moved_80 : decode cX10_moved 80 = .ok (.iload_n 2, 1) := by decide +kernel
theorem dX10_moved_81 : decode cX10_moved 81 = .ok (.invokevirtual 157, 3) := by decide +kernel
theorem dX10_moved_84 : decode cX10_moved 84 = .ok (.lsub, 1) := by decide +kernel
theorem dX10_moved_85 : decode cX10_moved 85 = .ok (.invokevirtual 132, 3) := by decide +kernel
theorem dX10_moved_88 : decode cX10_moved 88 = .ok (.lreturn, 1) := by decide +kernel
theorem dX10_lateAt_0 : decode cX10_lateAt 0 = .ok (.aload_n 0, 1) := by decide +kernel
theorem dX10_lateAt_1 : decode cX10_lateAt 1 = .ok (.iload_n 1, 1) := by decide +kernel
theorem dX10_lateAt_2 : decode cX10_lateAt 2 = .ok (.invokevirtual 150, 3) := by decide +kernel
theorem dX10_lateAt_5 : decode cX10_lateAt 5 = .ok (.lstore_n 2, 1) := by decide +kernel
theorem dX10_lateAt_6 : decode cX10_lateAt 6 = .ok (.iconst 0, 1) := by decide +kernel
theorem dX10_lateAt_7 : decode cX10_lateAt 7 = .ok (.istore 4, 2) := by decide +kernel
theorem dX10_lateAt_9 : decode cX10_lateAt 9 = .ok (.iload 4, 2) := by decide +kernel
theorem dX10_lateAt_11 : decode cX10_lateAt 11 = .ok (.sipush 500, 3) := by decide +kernel
theorem dX10_lateAt_14 : decode cX10_lateAt 14 = .ok (.if_icmp .gt 25, 3) := by decide +kernel
theorem dX10_lateAt_17 : decode cX10_lateAt 17 = .ok (.aload_n 0, 1) := by decide +kernel
theorem dX10_lateAt_18 : decode cX10_lateAt 18 = .ok (.iload_n 1, 1) := by decide +kernel
theorem dX10_lateAt_19 : decode cX10_lateAt 19 = .ok (.iload 4, 2) := by decide +kernel
theorem dX10_lateAt_21 : decode cX10_lateAt 21 = .ok (.iadd, 1) := by decide +kernel
theorem dX10_lateAt_22 : decode cX10_lateAt 22 = .ok (.invokevirtual 157, 3) := by decide +kernel
theorem dX10_lateAt_25 : decode cX10_lateAt 25 = .ok (.lload_n 2, 1) := by decide +kernel
theorem dX10_lateAt_26 : decode cX10_lateAt 26 = .ok (.lcmp, 1) := by decide +kernel
theorem dX10_lateAt_27 : decode cX10_lateAt 27 = .ok (.ifCond .lt 6, 3) := by decide +kernel
theorem dX10_lateAt_30 : decode cX10_lateAt 30 = .ok (.iload 4, 2) := by decide +kernel
theorem dX10_lateAt_32 : decode cX10_lateAt 32 = .ok (.ireturn, 1) := by decide +kernel
theorem dX10_lateAt_33 : decode cX10_lateAt 33 = .ok (.iinc 4 1, 3) := by decide +kernel
theorem dX10_lateAt_36 : decode cX10_lateAt 36 = .ok (.goto (-27), 3) := by decide +kernel
theorem dX10_lateAt_39 : decode cX10_lateAt 39 = .ok (.iconst (-1), 1) := by decide +kernel
theorem dX10_lateAt_40 : decode cX10_lateAt 40 = .ok (.ireturn, 1) := by decide +kernel
theorem dX10_late_0 : decode cX10_late 0 = .ok (.iload_n 1, 1) := by decide +kernel
theorem dX10_late_1 : decode cX10_late 1 = .ok (.i2l, 1) := by decide +kernel
theorem dX10_late_2 : decode cX10_late 2 = .ok (.lconst 0, 1) := by decide +kernel
theorem dX10_late_3 : decode cX10_late 3 = .ok (.aload_n 0, 1) := by decide +kernel
theorem dX10_late_4 : decode cX10_late 4 = .ok (.getfield 147, 3) := by decide +kernel
theorem dX10_late_7 : decode cX10_late 7 = .ok (.i2l, 1) := by decide +kernel
theorem dX10_late_8 : decode cX10_late 8 = .ok (.invokestatic 50, 3) := by decide +kernel
theorem dX10_late_11 : decode cX10_late 11 = .ok (.ifCond .ne 9, 3) := by decide +kernel
theorem dX10_late_14 : decode cX10_late 14 = .ok (.aload_n 0, 1) := by decide +kernel
theorem dX10_late_15 : decode cX10_late 15 = .ok (.iconst (-1), 1) := by decide +kernel
theorem dX10_late_16 : decode cX10_late 16 = .ok (.invokevirtual 58, 3) := by decide +kernel
theorem dX10_late_19 : decode cX10_late 19 = .ok (.ireturn, 1) := by decide +kernel
theorem dX10_late_20 : decode cX10_late 20 = .ok (.aload_n 0, 1) := by decide +kernel
theorem dX10_late_21 : decode cX10_late 21 = .ok (.getfield 32, 3) := by decide +kernel
theorem dX10_late_24 : decode cX10_late 24 = .ok (.ifCond .ge 10, 3) := by decide +kernel
theorem dX10_late_27 : decode cX10_late 27 = .ok (.aload_n 0, 1) := by decide +kernel
theorem dX10_late_28 : decode cX10_late 28 = .ok (.bipush (-2), 2) := by decide +kernel
theorem dX10_late_30 : decode cX10_late 30 = .ok (.invokevirtual 58, 3) := by decide +kernel
theorem dX10_late_33 : decode cX10_late 33 = .ok (.ireturn, 1) := by decide +kernel
theorem dX10_late_34 : decode cX10_late 34 = .ok (.aload_n 0, 1) := by decide +kernel
theorem dX10_late_35 : decode cX10_late 35 = .ok (.iload_n 1, 1) := by decide +kernel
theorem dX10_late_36 : decode cX10_late 36 = .ok (.invokevirtual 160, 3) := by decide +kernel
theorem dX10_late_39 : decode cX10_late 39 = .ok (.istore_n 2, 1) := by decide +kernel
theorem dX10_late_40 : decode cX10_late 40 = .ok (.iload_n 2, 1) := by decide +kernel
theorem dX10_late_41 : decode cX10_late 41 = .ok (.ifCond .ge 12, 3) := by decide +kernel
theorem dX10_late_44 : decode cX10_late 44 = .ok (.aload_n 0, 1) := by decide +kernel
theorem dX10_late_45 : decode cX10_late 45 = .ok (.bipush (-5), 2) := by decide +kernel
theorem dX10_late_47 : decode cX10_late 47 = .ok (.invokevirtual 58, 3) := by decide +kernel
theorem dX10_late_50 : decode cX10_late 50 = .ok (.goto 8, 3) := by decide +kernel
theorem dX10_late_53 : decode cX10_late 53 = .ok (.aload_n 0, 1) := by decide +kernel
theorem dX10_late_54 : decode cX10_late 54 = .ok (.iload_n 2, 1) := by decide +kernel
theorem dX10_late_55 : decode cX10_late 55 = .ok (.invokevirtual 73, 3) := by decide +kernel
theorem dX10_late_58 : decode cX10_late 58 = .ok (.ireturn, 1) := by decide +kernel
theorem dX10_mostHeld_0 : decode cX10_mostHeld 0 = .ok (.aload_n 0, 1) := by decide +kernel
theorem dX10_mostHeld_1 : decode cX10_mostHeld 1 = .ok (.getfield 32, 3) := by decide +kernel
theorem dX10_mostHeld_4 : decode cX10_mostHeld 4 = .ok (.ifCond .ge 10, 3) := by decide +kernel
theorem dX10_mostHeld_7 : decode cX10_mostHeld 7 = .ok (.aload_n 0, 1) := by decide +kernel
theorem dX10_mostHeld_8 : decode cX10_mostHeld 8 = .ok (.bipush (-2), 2) := by decide +kernel
theorem dX10_mostHeld_10 : decode cX10_mostHeld 10 = .ok (.invokevirtual 128, 3) := by decide +kernel
theorem dX10_mostHeld_13 : decode cX10_mostHeld 13 = .ok (.lreturn, 1) := by decide +kernel
theorem dX10_mostHeld_14 : decode cX10_mostHeld 14 = .ok (.lconst 0, 1) := by decide +kernel
theorem dX10_mostHeld_15 : decode cX10_mostHeld 15 = .ok (.lstore_n 1, 1) := by decide +kernel
theorem dX10_mostHeld_16 : decode cX10_mostHeld 16 = .ok (.iconst 0, 1) := by decide +kernel
theorem dX10_mostHeld_17 : decode cX10_mostHeld 17 = .ok (.istore_n 3, 1) := by decide +kernel
theorem dX10_mostHeld_18 : decode cX10_mostHeld 18 = .ok (.iload_n 3, 1) := by decide +kernel
theorem dX10_mostHeld_19 : decode cX10_mostHeld 19 = .ok (.aload_n 0, 1) := by decide +kernel
theorem dX10_mostHeld_20 : decode cX10_mostHeld 20 = .ok (.getfield 147, 3) := by decide +kernel
theorem dX10_mostHeld_23 : decode cX10_mostHeld 23 = .ok (.if_icmp .gt 36, 3) := by decide +kernel
theorem dX10_mostHeld_26 : decode cX10_mostHeld 26 = .ok (.aload_n 0, 1) := by decide +kernel
theorem dX10_mostHeld_27 : decode cX10_mostHeld 27 = .ok (.iload_n 3, 1) := by decide +kernel
theorem dX10_mostHeld_28 : decode cX10_mostHeld 28 = .ok (.invokevirtual 150, 3) := by decide +kernel
theorem dX10_mostHeld_31 : decode cX10_mostHeld 31 = .ok (.aload_n 0, 1) := by decide +kernel
theorem dX10_mostHeld_32 : decode cX10_mostHeld 32 = .ok (.iload_n 3, 1) := by decide +kernel
theorem dX10_mostHeld_33 : decode cX10_mostHeld 33 = .ok (.invokevirtual 157, 3) := by decide +kernel
theorem dX10_mostHeld_36 : decode cX10_mostHeld 36 = .ok (.lsub, 1) := by decide +kernel
theorem dX10_mostHeld_37 : decode cX10_mostHeld 37 = .ok (.lstore 4, 2) := by decide +kernel
theorem dX10_mostHeld_39 : decode cX10_mostHeld 39 = .ok (.lload 4, 2) := by decide +kernel
theorem dX10_mostHeld_41 : decode cX10_mostHeld 41 = .ok (.lload_n 1, 1) := by decide +kernel
theorem dX10_mostHeld_42 : decode cX10_mostHeld 42 = .ok (.lcmp, 1) := by decide +kernel
theorem dX10_mostHeld_43 : decode cX10_mostHeld 43 = .ok (.ifCond .le 8, 3) := by decide +kernel
theorem dX10_mostHeld_46 : decode cX10_mostHeld 46 = .ok (.lload 4, 2) := by decide +kernel
theorem dX10_mostHeld_48 : decode cX10_mostHeld 48 = .ok (.goto 4, 3) := by decide +kernel
theorem dX10_mostHeld_51 : decode cX10_mostHeld 51 = .ok (.lload_n 1, 1) := by decide +kernel
theorem dX10_mostHeld_52 : decode cX10_mostHeld 52 = .ok (.lstore_n 1, 1) := by decide +kernel
theorem dX10_mostHeld_53 : decode cX10_mostHeld 53 = .ok (.iinc 3 1, 3) := by decide +kernel
theorem dX10_mostHeld_56 : decode cX10_mostHeld 56 = .ok (.goto (-38), 3) := by decide +kernel
theorem dX10_mostHeld_59 : decode cX10_mostHeld 59 = .ok (.aload_n 0, 1) := by decide +kernel
theorem dX10_mostHeld_60 : decode cX10_mostHeld 60 = .ok (.lload_n 1, 1) := by decide +kernel
theorem dX10_mostHeld_61 : decode cX10_mostHeld 61 = .ok (.invokevirtual 132, 3) := by decide +kernel
theorem dX10_mostHeld_64 : decode cX10_mostHeld 64 = .ok (.lreturn, 1) := by decide +kernel
theorem dX10_mostLate_0 : decode cX10_mostLate 0 = .ok (.aload_n 0, 1) := by decide +kernel
theorem dX10_mostLate_1 : decode cX10_mostLate 1 = .ok (.getfield 32, 3) := by decide +kernel
theorem dX10_mostLate_4 : decode cX10_mostLate 4 = .ok (.ifCond .ge 10, 3) := by decide +kernel
theorem dX10_mostLate_7 : decode cX10_mostLate 7 = .ok (.aload_n 0, 1) := by decide +kernel
theorem dX10_mostLate_8 : decode cX10_mostLate 8 = .ok (.bipush (-2), 2) := by decide +kernel
theorem dX10_mostLate_10 : decode cX10_mostLate 10 = .ok (.invokevirtual 58, 3) := by decide +kernel
theorem dX10_mostLate_13 : decode cX10_mostLate 13 = .ok (.ireturn, 1) := by decide +kernel
theorem dX10_mostLate_14 : decode cX10_mostLate 14 = .ok (.iconst 0, 1) := by decide +kernel
theorem dX10_mostLate_15 : decode cX10_mostLate 15 = .ok (.istore_n 1, 1) := by decide +kernel
theorem dX10_mostLate_16 : decode cX10_mostLate 16 = .ok (.iconst 0, 1) := by decide +kernel
theorem dX10_mostLate_17 : decode cX10_mostLate 17 = .ok (.istore_n 2, 1) := by decide +kernel
theorem dX10_mostLate_18 : decode cX10_mostLate 18 = .ok (.iload_n 2, 1) := by decide +kernel
theorem dX10_mostLate_19 : decode cX10_mostLate 19 = .ok (.aload_n 0, 1) := by decide +kernel
theorem dX10_mostLate_20 : decode cX10_mostLate 20 = .ok (.getfield 147, 3) := by decide +kernel
theorem dX10_mostLate_23 : decode cX10_mostLate 23 = .ok (.if_icmp .gt 37, 3) := by decide +kernel
theorem dX10_mostLate_26 : decode cX10_mostLate 26 = .ok (.aload_n 0, 1) := by decide +kernel
theorem dX10_mostLate_27 : decode cX10_mostLate 27 = .ok (.iload_n 2, 1) := by decide +kernel
theorem dX10_mostLate_28 : decode cX10_mostLate 28 = .ok (.invokevirtual 160, 3) := by decide +kernel
theorem dX10_mostLate_31 : decode cX10_mostLate 31 = .ok (.istore_n 3, 1) := by decide +kernel
theorem dX10_mostLate_32 : decode cX10_mostLate 32 = .ok (.iload_n 3, 1) := by decide +kernel
theorem dX10_mostLate_33 : decode cX10_mostLate 33 = .ok (.ifCond .ge 10, 3) := by decide +kernel
theorem dX10_mostLate_36 : decode cX10_mostLate 36 = .ok (.aload_n 0, 1) := by decide +kernel
theorem dX10_mostLate_37 : decode cX10_mostLate 37 = .ok (.bipush (-5), 2) := by decide +kernel
theorem dX10_mostLate_39 : decode cX10_mostLate 39 = .ok (.invokevirtual 58, 3) := by decide +kernel
theorem dX10_mostLate_42 : decode cX10_mostLate 42 = .ok (.ireturn, 1) := by decide +kernel
theorem dX10_mostLate_43 : decode cX10_mostLate 43 = .ok (.iload_n 3, 1) := by decide +kernel
theorem dX10_mostLate_44 : decode cX10_mostLate 44 = .ok (.iload_n 1, 1) := by decide +kernel
theorem dX10_mostLate_45 : decode cX10_mostLate 45 = .ok (.if_icmp .le 7, 3) := by decide +kernel
theorem dX10_mostLate_48 : decode cX10_mostLate 48 = .ok (.iload_n 3, 1) := by decide +kernel
theorem dX10_mostLate_49 : decode cX10_mostLate 49 = .ok (.goto 4, 3) := by decide +kernel
theorem dX10_mostLate_52 : decode cX10_mostLate 52 = .ok (.iload_n 1, 1) := by decide +kernel
theorem dX10_mostLate_53 : decode cX10_mostLate 53 = .ok (.istore_n 1, 1) := by decide +kernel
theorem dX10_mostLate_54 : decode cX10_mostLate 54 = .ok (.iinc 2 1, 3) := by decide +kernel
theorem dX10_mostLate_57 : decode cX10_mostLate 57 = .ok (.goto (-39), 3) := by decide +kernel
theorem dX10_mostLate_60 : decode cX10_mostLate 60 = .ok (.aload_n 0, 1) := by decide +kernel
theorem dX10_mostLate_61 : decode cX10_mostLate 61 = .ok (.iload_n 1, 1) := by decide +kernel
theorem dX10_mostLate_62 : decode cX10_mostLate 62 = .ok (.invokevirtual 73, 3) := by decide +kernel
theorem dX10_mostLate_65 : decode cX10_mostLate 65 = .ok (.ireturn, 1) := by decide +kernel
theorem dX10_keeps_0 : decode cX10_keeps 0 = .ok (.aload_n 0, 1) := by decide +kernel
theorem dX10_keeps_1 : decode cX10_keeps 1 = .ok (.iload_n 1, 1) := by decide +kernel
theorem dX10_keeps_2 : decode cX10_keeps 2 = .ok (.invokevirtual 109, 3) := by decide +kernel
theorem dX10_keeps_5 : decode cX10_keeps 5 = .ok (.ifCond .ne 9, 3) := by decide +kernel
theorem dX10_keeps_8 : decode cX10_keeps 8 = .ok (.aload_n 0, 1) := by decide +kernel
theorem dX10_keeps_9 : decode cX10_keeps 9 = .ok (.iconst (-1), 1) := by decide +kernel
theorem dX10_keeps_10 : decode cX10_keeps 10 = .ok (.invokevirtual 58, 3) := by decide +kernel
theorem dX10_keeps_13 : decode cX10_keeps 13 = .ok (.ireturn, 1) := by decide +kernel
theorem dX10_keeps_14 : decode cX10_keeps 14 = .ok (.iconst 1, 1) := by decide +kernel
theorem dX10_keeps_15 : decode cX10_keeps 15 = .ok (.istore_n 2, 1) := by decide +kernel
theorem dX10_keeps_16 : decode cX10_keeps 16 = .ok (.iconst 0, 1) := by decide +kernel
theorem dX10_keeps_17 : decode cX10_keeps 17 = .ok (.istore_n 3, 1) := by decide +kernel
theorem dX10_keeps_18 : decode cX10_keeps 18 = .ok (.iload_n 3, 1) := by decide +kernel
theorem dX10_keeps_19 : decode cX10_keeps 19 = .ok (.aload_n 0, 1) := by decide +kernel
theorem dX10_keeps_20 : decode cX10_keeps 20 = .ok (.getfield 147, 3) := by decide +kernel
theorem dX10_keeps_23 : decode cX10_keeps 23 = .ok (.if_icmp .gt 64, 3) := by decide +kernel
theorem dX10_keeps_26 : decode cX10_keeps 26 = .ok (.iload_n 2, 1) := by decide +kernel
theorem dX10_keeps_27 : decode cX10_keeps 27 = .ok (.ifCond .eq 60, 3) := by decide +kernel
theorem dX10_keeps_30 : decode cX10_keeps 30 = .ok (.iconst 0, 1) := by decide +kernel
theorem dX10_keeps_31 : decode cX10_keeps 31 = .ok (.istore 4, 2) := by decide +kernel
theorem dX10_keeps_33 : decode cX10_keeps 33 = .ok (.iload 4, 2) := by decide +kernel
theorem dX10_keeps_35 : decode cX10_keeps 35 = .ok (.iload_n 3, 1) := by decide +kernel
theorem dX10_keeps_36 : decode cX10_keeps 36 = .ok (.if_icmp .gt 45, 3) := by decide +kernel
theorem dX10_keeps_39 : decode cX10_keeps 39 = .ok (.iload_n 2, 1) := by decide +kernel
theorem dX10_keeps_40 : decode cX10_keeps 40 = .ok (.ifCond .eq 41, 3) := by decide +kernel
theorem dX10_keeps_43 : decode cX10_keeps 43 = .ok (.aload_n 0, 1) := by decide +kernel
theorem dX10_keeps_44 : decode cX10_keeps 44 = .ok (.iload_n 3, 1) := by decide +kernel
theorem dX10_keeps_45 : decode cX10_keeps 45 = .ok (.invokevirtual 150, 3) := by decide +kernel
theorem dX10_keeps_48 : decode cX10_keeps 48 = .ok (.aload_n 0, 1) := by decide +kernel
theorem dX10_keeps_49 : decode cX10_keeps 49 = .ok (.iload 4, 2) := by decide +kernel
theorem dX10_keeps_51 : decode cX10_keeps 51 = .ok (.invokevirtual 150, 3) := by decide +kernel
theorem dX10_keeps_54 : decode cX10_keeps 54 = .ok (.lsub, 1) := by decide +kernel
theorem dX10_keeps_55 : decode cX10_keeps 55 = .ok (.aload_n 0, 1) := by decide +kernel
theorem dX10_keeps_56 : decode cX10_keeps 56 = .ok (.iload_n 1, 1) := by decide +kernel
theorem dX10_keeps_57 : decode cX10_keeps 57 = .ok (.iload_n 3, 1) := by decide +kernel
theorem dX10_keeps_58 : decode cX10_keeps 58 = .ok (.iload 4, 2) := by decide +kernel
theorem dX10_keeps_60 : decode cX10_keeps 60 = .ok (.isub, 1) := by decide +kernel
theorem dX10_keeps_61 : decode cX10_keeps 61 = .ok (.i2l, 1) := by decide +kernel
theorem dX10_keeps_62 : decode cX10_keeps 62 = .ok (.invokevirtual 95, 3) := by decide +kernel
theorem dX10_keeps_65 : decode cX10_keeps 65 = .ok (.lcmp, 1) := by decide +kernel
theorem dX10_keeps_66 : decode cX10_keeps 66 = .ok (.ifCond .gt 7, 3) := by decide +kernel
theorem dX10_keeps_69 : decode cX10_keeps 69 = .ok (.iconst 1, 1) := by decide +kernel
theorem dX10_keeps_70 : decode cX10_keeps 70 = .ok (.goto 4, 3) := by decide +kernel
theorem dX10_keeps_73 : decode cX10_keeps 73 = .ok (.iconst 0, 1) := by decide +kernel
theorem dX10_keeps_74 : decode cX10_keeps 74 = .ok (.istore_n 2, 1) := by decide +kernel
theorem dX10_keeps_75 : decode cX10_keeps 75 = .ok (.iinc 4 1, 3) := by decide +kernel
theorem dX10_keeps_78 : decode cX10_keeps 78 = .ok (.goto (-45), 3) := by decide +kernel
theorem dX10_keeps_81 : decode cX10_keeps 81 = .ok (.iinc 3 1, 3) := by decide +kernel
theorem dX10_keeps_84 : decode cX10_keeps 84 = .ok (.goto (-66), 3) := by decide +kernel
theorem dX10_keeps_87 : decode cX10_keeps 87 = .ok (.aload_n 0, 1) := by decide +kernel
theorem dX10_keeps_88 : decode cX10_keeps 88 = .ok (.iload_n 2, 1) := by decide +kernel
theorem dX10_keeps_89 : decode cX10_keeps 89 = .ok (.ifCond .eq 7, 3) := by decide +kernel
theorem dX10_keeps_92 : decode cX10_keeps 92 = .ok (.iconst 1, 1) := by decide +kernel
theorem dX10_keeps_93 : decode cX10_keeps 93 = .ok (.goto 4, 3) := by decide +kernel
theorem dX10_keeps_96 : decode cX10_keeps 96 = .ok (.iconst 0, 1) := by decide +kernel
theorem dX10_keeps_97 : decode cX10_keeps 97 = .ok (.invokevirtual 73, 3) := by decide +kernel
theorem dX10_keeps_100 : decode cX10_keeps 100 = .ok (.ireturn, 1) := by decide +kernel
theorem dX10_count_0 : decode cX10_count 0 = .ok (.iload_n 1, 1) := by decide +kernel
theorem dX10_count_1 : decode cX10_count 1 = .ok (.tableswitch 68 0 4 #[35, 40, 45, 50, 55], 35) := by decide +kernel
theorem dX10_count_36 : decode cX10_count 36 = .ok (.aload_n 0, 1) := by decide +kernel
theorem dX10_count_37 : decode cX10_count 37 = .ok (.getfield 47, 3) := by decide +kernel
theorem dX10_count_40 : decode cX10_count 40 = .ok (.ireturn, 1) := by decide +kernel
theorem dX10_count_41 : decode cX10_count 41 = .ok (.aload_n 0, 1) := by decide +kernel
theorem dX10_count_42 : decode cX10_count 42 = .ok (.getfield 76, 3) := by decide +kernel
theorem dX10_count_45 : decode cX10_count 45 = .ok (.ireturn, 1) := by decide +kernel
theorem dX10_count_46 : decode cX10_count 46 = .ok (.aload_n 0, 1) := by decide +kernel
theorem dX10_count_47 : decode cX10_count 47 = .ok (.getfield 147, 3) := by decide +kernel
theorem dX10_count_50 : decode cX10_count 50 = .ok (.ireturn, 1) := by decide +kernel
theorem dX10_count_51 : decode cX10_count 51 = .ok (.aload_n 0, 1) := by decide +kernel
theorem dX10_count_52 : decode cX10_count 52 = .ok (.getfield 32, 3) := by decide +kernel
theorem dX10_count_55 : decode cX10_count 55 = .ok (.ireturn, 1) := by decide +kernel
theorem dX10_count_56 : decode cX10_count 56 = .ok (.aload_n 0, 1) := by decide +kernel
theorem dX10_count_57 : decode cX10_count 57 = .ok (.getfield 69, 3) := by decide +kernel
theorem dX10_count_60 : decode cX10_count 60 = .ok (.ifCond .eq 7, 3) := by decide +kernel
theorem dX10_count_63 : decode cX10_count 63 = .ok (.iconst 1, 1) := by decide +kernel
theorem dX10_count_64 : decode cX10_count 64 = .ok (.goto 4, 3) := by decide +kernel
theorem dX10_count_67 : decode cX10_count 67 = .ok (.iconst 0, 1) := by decide +kernel
theorem dX10_count_68 : decode cX10_count 68 = .ok (.ireturn, 1) := by decide +kernel
theorem dX10_count_69 : decode cX10_count 69 = .ok (.iconst (-1), 1) := by decide +kernel
theorem dX10_count_70 : decode cX10_count 70 = .ok (.ireturn, 1) := by decide +kernel
theorem dX10_trace_0 : decode cX10_trace 0 = .ok (.iload_n 1, 1) := by decide +kernel
theorem dX10_trace_1 : decode cX10_trace 1 = .ok (.i2l, 1) := by decide +kernel
theorem dX10_trace_2 : decode cX10_trace 2 = .ok (.lconst 0, 1) := by decide +kernel
theorem dX10_trace_3 : decode cX10_trace 3 = .ok (.ldc2_w 136, 3) := by decide +kernel
theorem dX10_trace_6 : decode cX10_trace 6 = .ok (.invokestatic 50, 3) := by decide +kernel
theorem dX10_trace_9 : decode cX10_trace 9 = .ok (.ifCond .eq 12, 3) := by decide +kernel
theorem dX10_trace_12 : decode cX10_trace 12 = .ok (.aload_n 0, 1) := by decide +kernel
theorem dX10_trace_13 : decode cX10_trace 13 = .ok (.getfield 36, 3) := by decide +kernel
theorem dX10_trace_16 : decode cX10_trace 16 = .ok (.iload_n 1, 1) := by decide +kernel
theorem dX10_trace_17 : decode cX10_trace 17 = .ok (.iaload, 1) := by decide +kernel
theorem dX10_trace_18 : decode cX10_trace 18 = .ok (.goto 4, 3) := by decide +kernel
theorem dX10_trace_21 : decode cX10_trace 21 = .ok (.iconst (-1), 1) := by decide +kernel
theorem dX10_trace_22 : decode cX10_trace 22 = .ok (.ireturn, 1) := by decide +kernel
theorem dX10_status_0 : decode cX10_status 0 = .ok (.aload_n 0, 1) := by decide +kernel
theorem dX10_status_1 : decode cX10_status 1 = .ok (.getfield 42, 3) := by decide +kernel
theorem dX10_status_4 : decode cX10_status 4 = .ok (.ireturn, 1) := by decide +kernel
theorem dX10_clear_0 : decode cX10_clear 0 = .ok (.aload_n 0, 1) := by decide +kernel
theorem dX10_clear_1 : decode cX10_clear 1 = .ok (.iconst 0, 1) := by decide +kernel
theorem dX10_clear_2 : decode cX10_clear 2 = .ok (.putfield 47, 3) := by decide +kernel
theorem dX10_clear_5 : decode cX10_clear 5 = .ok (.aload_n 0, 1) := by decide +kernel
theorem dX10_clear_6 : decode cX10_clear 6 = .ok (.iconst 0, 1) := by decide +kernel
theorem dX10_clear_7 : decode cX10_clear 7 = .ok (.putfield 69, 3) := by decide +kernel
theorem dX10_clear_10 : decode cX10_clear 10 = .ok (.aload_n 0, 1) := by decide +kernel
theorem dX10_clear_11 : decode cX10_clear 11 = .ok (.iconst 0, 1) := by decide +kernel
theorem dX10_clear_12 : decode cX10_clear 12 = .ok (.putfield 76, 3) := by decide +kernel
theorem dX10_clear_15 : decode cX10_clear 15 = .ok (.aload_n 0, 1) := by decide +kernel
theorem dX10_clear_16 : decode cX10_clear 16 = .ok (.iconst 0, 1) := by decide +kernel
theorem dX10_clear_17 : decode cX10_clear 17 = .ok (.putfield 147, 3) := by decide +kernel
theorem dX10_clear_20 : decode cX10_clear 20 = .ok (.aload_n 0, 1) := by decide +kernel
theorem dX10_clear_21 : decode cX10_clear 21 = .ok (.iconst (-1), 1) := by decide +kernel
theorem dX10_clear_22 : decode cX10_clear 22 = .ok (.putfield 32, 3) := by decide +kernel
theorem dX10_clear_25 : decode cX10_clear 25 = .ok (.aload_n 0, 1) := by decide +kernel
theorem dX10_clear_26 : decode cX10_clear 26 = .ok (.iconst 1, 1) := by decide +kernel
theorem dX10_clear_27 : decode cX10_clear 27 = .ok (.invokevirtual 73, 3) := by decide +kernel
theorem dX10_clear_30 : decode cX10_clear 30 = .ok (.ireturn, 1) := by decide +kernel
