theorem dX0_init_0 : decode cX0_init 0 = .ok (.aload_n 0, 1) := by decide +kernel
theorem dX0_init_1 : decode cX0_init 1 = .ok (.iload_n 1, 1) := by decide +kernel
theorem dX0_init_2 : decode cX0_init 2 = .ok (.iload_n 2, 1) := by decide +kernel
theorem dX0_init_3 : decode cX0_init 3 = .ok (.iload_n 3, 1) := by decide +kernel
theorem dX0_init_4 : decode cX0_init 4 = .ok (.aload 4, 2) := by decide +kernel
theorem dX0_init_6 : decode cX0_init 6 = .ok (.invokespecial 3, 3) := by decide +kernel
theorem dX0_init_9 : decode cX0_init 9 = .ok (.aload_n 0, 1) := by decide +kernel
theorem dX0_init_10 : decode cX0_init 10 = .ok (.lload 5, 2) := by decide +kernel
theorem dX0_init_12 : decode cX0_init 12 = .ok (.putfield 9, 3) := by decide +kernel
theorem dX0_init_15 : decode cX0_init 15 = .ok (.return_, 1) := by decide +kernel
theorem dX0_kind_0 : decode cX0_kind 0 = .ok (.iconst 1, 1) := by decide +kernel
theorem dX0_kind_1 : decode cX0_kind 1 = .ok (.ireturn, 1) := by decide +kernel
theorem dX0_asked_0 : decode cX0_asked 0 = .ok (.aload_n 2, 1) := by decide +kernel
theorem dX0_asked_1 : decode cX0_asked 1 = .ok (.iconst 1, 1) := by decide +kernel
theorem dX0_asked_2 : decode cX0_asked 2 = .ok (.invokevirtual 15, 3) := by decide +kernel
theorem dX0_asked_5 : decode cX0_asked 5 = .ok (.aload_n 0, 1) := by decide +kernel
theorem dX0_asked_6 : decode cX0_asked 6 = .ok (.iload_n 1, 1) := by decide +kernel
theorem dX0_asked_7 : decode cX0_asked 7 = .ok (.aload_n 2, 1) := by decide +kernel
theorem dX0_asked_8 : decode cX0_asked 8 = .ok (.invokespecial 21, 3) := by decide +kernel
theorem dX0_asked_11 : decode cX0_asked 11 = .ok (.lstore_n 3, 1) := by decide +kernel
theorem dX0_asked_12 : decode cX0_asked 12 = .ok (.iload_n 1, 1) := by decide +kernel
theorem dX0_asked_13 : decode cX0_asked 13 = .ok (.ifCond .ne 7, 3) := by decide +kernel
theorem dX0_asked_16 : decode cX0_asked 16 = .ok (.lconst 0, 1) := by decide +kernel
theorem dX0_asked_17 : decode cX0_asked 17 = .ok (.goto 9, 3) := by decide +kernel
theorem dX0_asked_20 : decode cX0_asked 20 = .ok (.lload_n 3, 1) := by decide +kernel
theorem dX0_asked_21 : decode cX0_asked 21 = .ok (.aload_n 0, 1) := by decide +kernel
theorem dX0_asked_22 : decode cX0_asked 22 = .ok (.getfield 9, 3) := by decide +kernel
theorem dX0_asked_25 : decode cX0_asked 25 = .ok (.ladd, 1) := by decide +kernel
theorem dX0_asked_26 : decode cX0_asked 26 = .ok (.lreturn, 1) := by decide +kernel
theorem dX1_init_0 : decode cX1_init 0 = .ok (.aload_n 0, 1) := by decide +kernel
theorem dX1_init_1 : decode cX1_init 1 = .ok (.invokespecial 3, 3) := by decide +kernel
theorem dX1_init_4 : decode cX1_init 4 = .ok (.aload_n 0, 1) := by decide +kernel
theorem dX1_init_5 : decode cX1_init 5 = .ok (.iload_n 1, 1) := by decide +kernel
theorem dX1_init_6 : decode cX1_init 6 = .ok (.putfield 9, 3) := by decide +kernel
theorem dX1_init_9 : decode cX1_init 9 = .ok (.aload_n 0, 1) := by decide +kernel
theorem dX1_init_10 : decode cX1_init 10 = .ok (.iload_n 2, 1) := by decide +kernel
theorem dX1_init_11 : decode cX1_init 11 = .ok (.putfield 15, 3) := by decide +kernel
theorem dX1_init_14 : decode cX1_init 14 = .ok (.aload_n 0, 1) := by decide +kernel
theorem dX1_init_15 : decode cX1_init 15 = .ok (.iload_n 3, 1) := by decide +kernel
theorem dX1_init_16 : decode cX1_init 16 = .ok (.putfield 18, 3) := by decide +kernel
theorem dX1_init_19 : decode cX1_init 19 = .ok (.aload_n 0, 1) := by decide +kernel
theorem dX1_init_20 : decode cX1_init 20 = .ok (.aload 4, 2) := by decide +kernel
theorem dX1_init_22 : decode cX1_init 22 = .ok (.putfield 21, 3) := by decide +kernel
theorem dX1_init_25 : decode cX1_init 25 = .ok (.return_, 1) := by decide +kernel
theorem dX1_kind_0 : decode cX1_kind 0 = .ok (.iconst 0, 1) := by decide +kernel
theorem dX1_kind_1 : decode cX1_kind 1 = .ok (.ireturn, 1) := by decide +kernel
theorem dX1_asked_0 : decode cX1_asked 0 = .ok (.aload_n 2, 1) := by decide +kernel
theorem dX1_asked_1 : decode cX1_asked 1 = .ok (.iconst 0, 1) := by decide +kernel
theorem dX1_asked_2 : decode cX1_asked 2 = .ok (.invokevirtual 25, 3) := by decide +kernel
theorem dX1_asked_5 : decode cX1_asked 5 = .ok (.aload_n 0, 1) := by decide +kernel
theorem dX1_asked_6 : decode cX1_asked 6 = .ok (.iload_n 1, 1) := by decide +kernel
theorem dX1_asked_7 : decode cX1_asked 7 = .ok (.invokevirtual 31, 3) := by decide +kernel
theorem dX1_asked_10 : decode cX1_asked 10 = .ok (.lreturn, 1) := by decide +kernel
theorem dX1_amount_0 : decode cX1_amount 0 = .ok (.iload_n 1, 1) := by decide +kernel
theorem dX1_amount_1 : decode cX1_amount 1 = .ok (.ifCond .lt 11, 3) := by decide +kernel
theorem dX1_amount_4 : decode cX1_amount 4 = .ok (.aload_n 0, 1) := by decide +kernel
theorem dX1_amount_5 : decode cX1_amount 5 = .ok (.getfield 15, 3) := by decide +kernel
theorem dX1_amount_8 : decode cX1_amount 8 = .ok (.iconst 1, 1) := by decide +kernel
theorem dX1_amount_9 : decode cX1_amount 9 = .ok (.if_icmp .ge 5, 3) := by decide +kernel
theorem dX1_amount_12 : decode cX1_amount 12 = .ok (.lconst 0, 1) := by decide +kernel
theorem dX1_amount_13 : decode cX1_amount 13 = .ok (.lreturn, 1) := by decide +kernel
theorem dX1_amount_14 : decode cX1_amount 14 = .ok (.iload_n 1, 1) := by decide +kernel
theorem dX1_amount_15 : decode cX1_amount 15 = .ok (.aload_n 0, 1) := by decide +kernel
theorem dX1_amount_16 : decode cX1_amount 16 = .ok (.getfield 21, 3) := by decide +kernel
theorem dX1_amount_19 : decode cX1_amount 19 = .ok (.arraylength, 1) := by decide +kernel
theorem dX1_amount_20 : decode cX1_amount 20 = .ok (.if_icmp .ge 10, 3) := by decide +kernel
theorem dX1_amount_23 : decode cX1_amount 23 = .ok (.aload_n 0, 1) := by decide +kernel
theorem dX1_amount_24 : decode cX1_amount 24 = .ok (.getfield 21, 3) := by decide +kernel
theorem dX1_amount_27 : decode cX1_amount 27 = .ok (.iload_n 1, 1) := by decide +kernel
theorem dX1_amount_28 : decode cX1_amount 28 = .ok (.laload, 1) := by decide +kernel
theorem dX1_amount_29 : decode cX1_amount 29 = .ok (.lreturn, 1) := by decide +kernel
theorem dX1_amount_30 : decode cX1_amount 30 = .ok (.iload_n 1, 1) := by decide +kernel
theorem dX1_amount_31 : decode cX1_amount 31 = .ok (.aload_n 0, 1) := by decide +kernel
theorem dX1_amount_32 : decode cX1_amount 32 = .ok (.getfield 9, 3) := by decide +kernel
theorem dX1_amount_35 : decode cX1_amount 35 = .ok (.isub, 1) := by decide +kernel
theorem dX1_amount_36 : decode cX1_amount 36 = .ok (.istore_n 2, 1) := by decide +kernel
theorem dX1_amount_37 : decode cX1_amount 37 = .ok (.aload_n 0, 1) := by decide +kernel
theorem dX1_amount_38 : decode cX1_amount 38 = .ok (.getfield 9, 3) := by decide +kernel
theorem dX1_amount_41 : decode cX1_amount 41 = .ok (.iload_n 2, 1) := by decide +kernel
theorem dX1_amount_42 : decode cX1_amount 42 = .ok (.aload_n 0, 1) := by decide +kernel
theorem dX1_amount_43 : decode cX1_amount 43 = .ok (.getfield 15, 3) := by decide +kernel
theorem dX1_amount_46 : decode cX1_amount 46 = .ok (.irem, 1) := by decide +kernel
theorem dX1_amount_47 : decode cX1_amount 47 = .ok (.iadd, 1) := by decide +kernel
theorem dX1_amount_48 : decode cX1_amount 48 = .ok (.istore_n 3, 1) := by decide +kernel
theorem dX1_amount_49 : decode cX1_amount 49 = .ok (.iload_n 3, 1) := by decide +kernel
theorem dX1_amount_50 : decode cX1_amount 50 = .ok (.ifCond .lt 12, 3) := by decide +kernel
theorem dX1_amount_53 : decode cX1_amount 53 = .ok (.iload_n 3, 1) := by decide +kernel
theorem dX1_amount_54 : decode cX1_amount 54 = .ok (.aload_n 0, 1) := by decide +kernel
theorem dX1_amount_55 : decode cX1_amount 55 = .ok (.getfield 21, 3) := by decide +kernel
theorem dX1_amount_58 : decode cX1_amount 58 = .ok (.arraylength, 1) := by decide +kernel
theorem dX1_amount_59 : decode cX1_amount 59 = .ok (.if_icmp .lt 5, 3) := by decide +kernel
theorem dX1_amount_62 : decode cX1_amount 62 = .ok (.lconst 0, 1) := by decide +kernel
theorem dX1_amount_63 : decode cX1_amount 63 = .ok (.lreturn, 1) := by decide +kernel
theorem dX1_amount_64 : decode cX1_amount 64 = .ok (.aload_n 0, 1) := by decide +kernel
theorem dX1_amount_65 : decode cX1_amount 65 = .ok (.getfield 21, 3) := by decide +kernel
theorem dX1_amount_68 : decode cX1_amount 68 = .ok (.iload_n 3, 1) := by decide +kernel
theorem dX1_amount_69 : decode cX1_amount 69 = .ok (.laload, 1) := by decide +kernel
theorem dX1_amount_70 : decode cX1_amount 70 = .ok (.iload_n 2, 1) := by decide +kernel
theorem dX1_amount_71 : decode cX1_amount 71 = .ok (.aload_n 0, 1) := by decide +kernel
theorem dX1_amount_72 : decode cX1_amount 72 = .ok (.getfield 15, 3) := by decide +kernel
theorem dX1_amount_75 : decode cX1_amount 75 = .ok (.idiv, 1) := by decide +kernel
theorem dX1_amount_76 : decode cX1_amount 76 = .ok (.i2l, 1) := by decide +kernel
theorem dX1_amount_77 : decode cX1_amount 77 = .ok (.aload_n 0, 1) := by decide +kernel
theorem dX1_amount_78 : decode cX1_amount 78 = .ok (.getfield 18, 3) := by decide +kernel
theorem dX1_amount_81 : decode cX1_amount 81 = .ok (.i2l, 1) := by decide +kernel
theorem dX1_amount_82 : decode cX1_amount 82 = .ok (.lmul, 1) := by decide +kernel
theorem dX1_amount_83 : decode cX1_amount 83 = .ok (.ladd, 1) := by decide +kernel
theorem dX1_amount_84 : decode cX1_amount 84 = .ok (.lreturn, 1) := by decide +kernel
theorem dX1_gainIn_0 : decode cX1_gainIn 0 = .ok (.aload_n 0, 1) := by decide +kernel
theorem dX1_gainIn_1 : decode cX1_gainIn 1 = .ok (.getfield 15, 3) := by decide +kernel
theorem dX1_gainIn_4 : decode cX1_gainIn 4 = .ok (.iconst 1, 1) := by decide +kernel
theorem dX1_gainIn_5 : decode cX1_gainIn 5 = .ok (.if_icmp .ge 7, 3) := by decide +kernel
theorem dX1_gainIn_8 : decode cX1_gainIn 8 = .ok (.lconst 0, 1) := by decide +kernel
theorem dX1_gainIn_9 : decode cX1_gainIn 9 = .ok (.goto 16, 3) := by decide +kernel
theorem dX1_gainIn_12 : decode cX1_gainIn 12 = .ok (.aload_n 0, 1) := by decide +kernel
theorem dX1_gainIn_13 : decode cX1_gainIn 13 = .ok (.getfield 18, 3) := by decide +kernel
theorem dX1_gainIn_16 : decode cX1_gainIn 16 = .ok (.i2l, 1) := by decide +kernel
theorem dX1_gainIn_17 : decode cX1_gainIn 17 = .ok (.iload_n 1, 1) := by decide +kernel
theorem dX1_gainIn_18 : decode cX1_gainIn 18 = .ok (.aload_n 0, 1) := by decide +kernel
theorem dX1_gainIn_19 : decode cX1_gainIn 19 = .ok (.getfield 15, 3) := by decide +kernel
theorem dX1_gainIn_22 : decode cX1_gainIn 22 = .ok (.idiv, 1) := by decide +kernel
theorem dX1_gainIn_23 : decode cX1_gainIn 23 = .ok (.i2l, 1) := by decide +kernel
theorem dX1_gainIn_24 : decode cX1_gainIn 24 = .ok (.lmul, 1) := by decide +kernel
theorem dX1_gainIn_25 : decode cX1_gainIn 25 = .ok (.lreturn, 1) := by decide +kernel
theorem dX1_sharedByGainAndStep_0 : decode cX1_sharedByGainAndStep 0 = .ok (.aload_n 0, 1) := by decide +kernel
theorem dX1_sharedByGainAndStep_1 : decode cX1_sharedByGainAndStep 1 = .ok (.getfield 15, 3) := by decide +kernel
theorem dX1_sharedByGainAndStep_4 : decode cX1_sharedByGainAndStep 4 = .ok (.istore_n 1, 1) := by decide +kernel
theorem dX1_sharedByGainAndStep_5 : decode cX1_sharedByGainAndStep 5 = .ok (.iload_n 1, 1) := by decide +kernel
theorem dX1_sharedByGainAndStep_6 : decode cX1_sharedByGainAndStep 6 = .ok (.iconst 1, 1) := by decide +kernel
theorem dX1_sharedByGainAndStep_7 : decode cX1_sharedByGainAndStep 7 = .ok (.if_icmp .le 29, 3) := by decide +kernel
theorem dX1_sharedByGainAndStep_10 : decode cX1_sharedByGainAndStep 10 = .ok (.aload_n 0, 1) := by decide +kernel
theorem dX1_sharedByGainAndStep_11 : decode cX1_sharedByGainAndStep 11 = .ok (.getfield 18, 3) := by decide +kernel
theorem dX1_sharedByGainAndStep_14 : decode cX1_sharedByGainAndStep 14 = .ok (.iload_n 1, 1) := by decide +kernel
theorem dX1_sharedByGainAndStep_15 : decode cX1_sharedByGainAndStep 15 = .ok (.irem, 1) := by decide +kernel
theorem dX1_sharedByGainAndStep_16 : decode cX1_sharedByGainAndStep 16 = .ok (.ifCond .ne 14, 3) := by decide +kernel
theorem dX1_sharedByGainAndStep_19 : decode cX1_sharedByGainAndStep 19 = .ok (.aload_n 0, 1) := by decide +kernel
theorem dX1_sharedByGainAndStep_20 : decode cX1_sharedByGainAndStep 20 = .ok (.getfield 15, 3) := by decide +kernel
theorem dX1_sharedByGainAndStep_23 : decode cX1_sharedByGainAndStep 23 = .ok (.iload_n 1, 1) := by decide +kernel
theorem dX1_sharedByGainAndStep_24 : decode cX1_sharedByGainAndStep 24 = .ok (.irem, 1) := by decide +kernel
theorem dX1_sharedByGainAndStep_25 : decode cX1_sharedByGainAndStep 25 = .ok (.ifCond .ne 5, 3) := by decide +kernel
theorem dX1_sharedByGainAndStep_28 : decode cX1_sharedByGainAndStep 28 = .ok (.iload_n 1, 1) := by decide +kernel
theorem dX1_sharedByGainAndStep_29 : decode cX1_sharedByGainAndStep 29 = .ok (.ireturn, 1) := by decide +kernel
theorem dX1_sharedByGainAndStep_30 : decode cX1_sharedByGainAndStep 30 = .ok (.iinc 1 (-1), 3) := by decide +kernel
theorem dX1_sharedByGainAndStep_33 : decode cX1_sharedByGainAndStep 33 = .ok (.goto (-28), 3) := by decide +kernel
theorem dX1_sharedByGainAndStep_36 : decode cX1_sharedByGainAndStep 36 = .ok (.iconst 1, 1) := by decide +kernel
theorem dX1_sharedByGainAndStep_37 : decode cX1_sharedByGainAndStep 37 = .ok (.ireturn, 1) := by decide +kernel
theorem dX1_firstReaching_0 : decode cX1_firstReaching 0 = .ok (.iconst (-1), 1) := by decide +kernel
theorem dX1_firstReaching_1 : decode cX1_firstReaching 1 = .ok (.istore 4, 2) := by decide +kernel
theorem dX1_firstReaching_3 : decode cX1_firstReaching 3 = .ok (.bipush 30, 2) := by decide +kernel
theorem dX1_firstReaching_5 : decode cX1_firstReaching 5 = .ok (.istore 5, 2) := by decide +kernel
theorem dX1_firstReaching_7 : decode cX1_firstReaching 7 = .ok (.iload 5, 2) := by decide +kernel
theorem dX1_firstReaching_9 : decode cX1_firstReaching 9 = .ok (.ifCond .lt 39, 3) := by decide +kernel
theorem dX1_firstReaching_12 : decode cX1_firstReaching 12 = .ok (.iload 4, 2) := by decide +kernel
theorem dX1_firstReaching_14 : decode cX1_firstReaching 14 = .ok (.iconst 1, 1) := by decide +kernel
theorem dX1_firstReaching_15 : decode cX1_firstReaching 15 = .ok (.iload 5, 2) := by decide +kernel
theorem dX1_firstReaching_17 : decode cX1_firstReaching 17 = .ok (.ishl, 1) := by decide +kernel
theorem dX1_firstReaching_18 : decode cX1_firstReaching 18 = .ok (.iadd, 1) := by decide +kernel
theorem dX1_firstReaching_19 : decode cX1_firstReaching 19 = .ok (.istore 6, 2) := by decide +kernel
theorem dX1_firstReaching_21 : decode cX1_firstReaching 21 = .ok (.iload 6, 2) := by decide +kernel
theorem dX1_firstReaching_23 : decode cX1_firstReaching 23 = .ok (.iload_n 3, 1) := by decide +kernel
theorem dX1_firstReaching_24 : decode cX1_firstReaching 24 = .ok (.if_icmp .gt 18, 3) := by decide +kernel
theorem dX1_firstReaching_27 : decode cX1_firstReaching 27 = .ok (.aload_n 0, 1) := by decide +kernel
theorem dX1_firstReaching_28 : decode cX1_firstReaching 28 = .ok (.iload 6, 2) := by decide +kernel
theorem dX1_firstReaching_30 : decode cX1_firstReaching 30 = .ok (.invokevirtual 31, 3) := by decide +kernel
theorem dX1_firstReaching_33 : decode cX1_firstReaching 33 = .ok (.lload_n 1, 1) := by decide +kernel
theorem dX1_firstReaching_34 : decode cX1_firstReaching 34 = .ok (.lcmp, 1) := by decide +kernel
theorem dX1_firstReaching_35 : decode cX1_firstReaching 35 = .ok (.ifCond .ge 7, 3) := by decide +kernel
theorem dX1_firstReaching_38 : decode cX1_firstReaching 38 = .ok (.iload 6, 2) := by decide +kernel
theorem dX1_firstReaching_40 : decode cX1_firstReaching 40 = .ok (.istore 4, 2) := by decide +kernel
theorem dX1_firstReaching_42 : decode cX1_firstReaching 42 = .ok (.iinc 5 (-1), 3) := by decide +kernel
theorem dX1_firstReaching_45 : decode cX1_firstReaching 45 = .ok (.goto (-38), 3) := by decide +kernel
theorem dX1_firstReaching_48 : decode cX1_firstReaching 48 = .ok (.iload 4, 2) := by decide +kernel
theorem dX1_firstReaching_50 : decode cX1_firstReaching 50 = .ok (.iload_n 3, 1) := by decide +kernel
theorem dX1_firstReaching_51 : decode cX1_firstReaching 51 = .ok (.if_icmp .ge 10, 3) := by decide +kernel
theorem dX1_firstReaching_54 : decode cX1_firstReaching 54 = .ok (.iload 4, 2) := by decide +kernel
theorem dX1_firstReaching_56 : decode cX1_firstReaching 56 = .ok (.iconst 1, 1) := by decide +kernel
theorem dX1_firstReaching_57 : decode cX1_firstReaching 57 = .ok (.iadd, 1) := by decide +kernel
theorem dX1_firstReaching_58 : decode cX1_firstReaching 58 = .ok (.goto 4, 3) := by decide +kernel
theorem dX1_firstReaching_61 : decode cX1_firstReaching 61 = .ok (.iconst (-1), 1) := by decide +kernel
theorem dX1_firstReaching_62 : decode cX1_firstReaching 62 = .ok (.ireturn, 1) := by decide +kernel
theorem dX1_isClosed_0 : decode cX1_isClosed 0 = .ok (.aload_n 0, 1) := by decide +kernel
theorem dX1_isClosed_1 : decode cX1_isClosed 1 = .ok (.iconst 0, 1) := by decide +kernel
theorem dX1_isClosed_2 : decode cX1_isClosed 2 = .ok (.invokevirtual 31, 3) := by decide +kernel
theorem dX1_isClosed_5 : decode cX1_isClosed 5 = .ok (.lconst 0, 1) := by decide +kernel
theorem dX1_isClosed_6 : decode cX1_isClosed 6 = .ok (.lcmp, 1) := by decide +kernel
theorem dX1_isClosed_7 : decode cX1_isClosed 7 = .ok (.ifCond .eq 5, 3) := by decide +kernel
theorem dX1_isClosed_10 : decode cX1_isClosed 10 = .ok (.iconst 0, 1) := by decide +kernel
theorem dX1_isClosed_11 : decode cX1_isClosed 11 = .ok (.ireturn, 1) := by decide +kernel
theorem dX1_isClosed_12 : decode cX1_isClosed 12 = .ok (.iconst 1, 1) := by decide +kernel
theorem dX1_isClosed_13 : decode cX1_isClosed 13 = .ok (.istore_n 1, 1) := by decide +kernel
theorem dX1_isClosed_14 : decode cX1_isClosed 14 = .ok (.iload_n 1, 1) := by decide +kernel
theorem dX1_isClosed_15 : decode cX1_isClosed 15 = .ok (.aload_n 0, 1) := by decide +kernel
theorem dX1_isClosed_16 : decode cX1_isClosed 16 = .ok (.getfield 21, 3) := by decide +kernel
theorem dX1_isClosed_19 : decode cX1_isClosed 19 = .ok (.arraylength, 1) := by decide +kernel
theorem dX1_isClosed_20 : decode cX1_isClosed 20 = .ok (.if_icmp .ge 52, 3) := by decide +kernel
theorem dX1_isClosed_23 : decode cX1_isClosed 23 = .ok (.iload_n 1, 1) := by decide +kernel
theorem dX1_isClosed_24 : decode cX1_isClosed 24 = .ok (.istore_n 2, 1) := by decide +kernel
theorem dX1_isClosed_25 : decode cX1_isClosed 25 = .ok (.iload_n 2, 1) := by decide +kernel
theorem dX1_isClosed_26 : decode cX1_isClosed 26 = .ok (.aload_n 0, 1) := by decide +kernel
theorem dX1_isClosed_27 : decode cX1_isClosed 27 = .ok (.getfield 21, 3) := by decide +kernel
theorem dX1_isClosed_30 : decode cX1_isClosed 30 = .ok (.arraylength, 1) := by decide +kernel
theorem dX1_isClosed_31 : decode cX1_isClosed 31 = .ok (.if_icmp .ge 35, 3) := by decide +kernel
theorem dX1_isClosed_34 : decode cX1_isClosed 34 = .ok (.aload_n 0, 1) := by decide +kernel
theorem dX1_isClosed_35 : decode cX1_isClosed 35 = .ok (.iload_n 1, 1) := by decide +kernel
theorem dX1_isClosed_36 : decode cX1_isClosed 36 = .ok (.iload_n 2, 1) := by decide +kernel
theorem dX1_isClosed_37 : decode cX1_isClosed 37 = .ok (.iadd, 1) := by decide +kernel
theorem dX1_isClosed_38 : decode cX1_isClosed 38 = .ok (.invokevirtual 31, 3) := by decide +kernel
theorem dX1_isClosed_41 : decode cX1_isClosed 41 = .ok (.aload_n 0, 1) := by decide +kernel
theorem dX1_isClosed_42 : decode cX1_isClosed 42 = .ok (.getfield 21, 3) := by decide +kernel
theorem dX1_isClosed_45 : decode cX1_isClosed 45 = .ok (.iload_n 1, 1) := by decide +kernel
theorem dX1_isClosed_46 : decode cX1_isClosed 46 = .ok (.laload, 1) := by decide +kernel
theorem dX1_isClosed_47 : decode cX1_isClosed 47 = .ok (.aload_n 0, 1) := by decide +kernel
theorem dX1_isClosed_48 : decode cX1_isClosed 48 = .ok (.getfield 21, 3) := by decide +kernel
theorem dX1_isClosed_51 : decode cX1_isClosed 51 = .ok (.iload_n 2, 1) := by decide +kernel
theorem dX1_isClosed_52 : decode cX1_isClosed 52 = .ok (.laload, 1) := by decide +kernel
theorem dX1_isClosed_53 : decode cX1_isClosed 53 = .ok (.ladd, 1) := by decide +kernel
theorem dX1_isClosed_54 : decode cX1_isClosed 54 = .ok (.lcmp, 1) := by decide +kernel
theorem dX1_isClosed_55 : decode cX1_isClosed 55 = .ok (.ifCond .le 5, 3) := by decide +kernel
theorem dX1_isClosed_58 : decode cX1_isClosed 58 = .ok (.iconst 0, 1) := by decide +kernel
theorem dX1_isClosed_59 : decode cX1_isClosed 59 = .ok (.ireturn, 1) := by decide +kernel
theorem dX1_isClosed_60 : decode cX1_isClosed 60 = .ok (.iinc 2 1, 3) := by decide +kernel
theorem dX1_isClosed_63 : decode cX1_isClosed 63 = .ok (.goto (-38), 3) := by decide +kernel
theorem dX1_isClosed_66 : decode cX1_isClosed 66 = .ok (.iinc 1 1, 3) := by decide +kernel
theorem dX1_isClosed_69 : decode cX1_isClosed 69 = .ok (.goto (-55), 3) := by decide +kernel
theorem dX1_isClosed_72 : decode cX1_isClosed 72 = .ok (.iconst 1, 1) := by decide +kernel
theorem dX1_isClosed_73 : decode cX1_isClosed 73 = .ok (.ireturn, 1) := by decide +kernel
theorem dX2_init_0 : decode cX2_init 0 = .ok (.aload_n 0, 1) := by decide +kernel
theorem dX2_init_1 : decode cX2_init 1 = .ok (.iload_n 1, 1) := by decide +kernel
theorem dX2_init_2 : decode cX2_init 2 = .ok (.iload_n 2, 1) := by decide +kernel
theorem dX2_init_3 : decode cX2_init 3 = .ok (.iload_n 3, 1) := by decide +kernel
theorem dX2_init_4 : decode cX2_init 4 = .ok (.aload 4, 2) := by decide +kernel
theorem dX2_init_6 : decode cX2_init 6 = .ok (.invokespecial 3, 3) := by decide +kernel
theorem dX2_init_9 : decode cX2_init 9 = .ok (.return_, 1) := by decide +kernel
theorem dX2_kind_0 : decode cX2_kind 0 = .ok (.iconst 3, 1) := by decide +kernel
theorem dX2_kind_1 : decode cX2_kind 1 = .ok (.ireturn, 1) := by decide +kernel
theorem dX2_asked_0 : decode cX2_asked 0 = .ok (.aload_n 2, 1) := by decide +kernel
theorem dX2_asked_1 : decode cX2_asked 1 = .ok (.iconst 3, 1) := by decide +kernel
theorem dX2_asked_2 : decode cX2_asked 2 = .ok (.invokevirtual 9, 3) := by decide +kernel
theorem dX2_asked_5 : decode cX2_asked 5 = .ok (.iload_n 1, 1) := by decide +kernel
theorem dX2_asked_6 : decode cX2_asked 6 = .ok (.aload_n 0, 1) := by decide +kernel
theorem dX2_asked_7 : decode cX2_asked 7 = .ok (.getfield 15, 3) := by decide +kernel
theorem dX2_asked_10 : decode cX2_asked 10 = .ok (.if_icmp .gt 7, 3) := by decide +kernel
theorem dX2_asked_13 : decode cX2_asked 13 = .ok (.lconst 0, 1) := by decide +kernel
theorem dX2_asked_14 : decode cX2_asked 14 = .ok (.goto 16, 3) := by decide +kernel
theorem dX2_asked_17 : decode cX2_asked 17 = .ok (.aload_n 0, 1) := by decide +kernel
theorem dX2_asked_18 : decode cX2_asked 18 = .ok (.getfield 21, 3) := by decide +kernel
theorem dX2_asked_21 : decode cX2_asked 21 = .ok (.i2l, 1) := by decide +kernel
theorem dX2_asked_22 : decode cX2_asked 22 = .ok (.iload_n 1, 1) := by decide +kernel
theorem dX2_asked_23 : decode cX2_asked 23 = .ok (.aload_n 0, 1) := by decide +kernel
theorem dX2_asked_24 : decode cX2_asked 24 = .ok (.getfield 15, 3) := by decide +kernel
theorem dX2_asked_27 : decode cX2_asked 27 = .ok (.isub, 1) := by decide +kernel
theorem dX2_asked_28 : decode cX2_asked 28 = .ok (.i2l, 1) := by decide +kernel
theorem dX2_asked_29 : decode cX2_asked 29 = .ok (.lmul, 1) := by decide +kernel
theorem dX2_asked_30 : decode cX2_asked 30 = .ok (.lreturn, 1) := by decide +kernel
theorem dX3_init_0 : decode cX3_init 0 = .ok (.aload_n 0, 1) := by decide +kernel
theorem dX3_init_1 : decode cX3_init 1 = .ok (.invokespecial 3, 3) := by decide +kernel
theorem dX3_init_4 : decode cX3_init 4 = .ok (.aload_n 0, 1) := by decide +kernel
theorem dX3_init_5 : decode cX3_init 5 = .ok (.sipush 600, 3) := by decide +kernel
theorem dX3_init_8 : decode cX3_init 8 = .ok (.newarray .long, 2) := by decide +kernel
theorem dX3_init_10 : decode cX3_init 10 = .ok (.putfield 11, 3) := by decide +kernel
theorem dX3_init_13 : decode cX3_init 13 = .ok (.aload_n 0, 1) := by decide +kernel
theorem dX3_init_14 : decode cX3_init 14 = .ok (.sipush 600, 3) := by decide +kernel
theorem dX3_init_17 : decode cX3_init 17 = .ok (.newarray .long, 2) := by decide +kernel
theorem dX3_init_19 : decode cX3_init 19 = .ok (.putfield 15, 3) := by decide +kernel
theorem dX3_init_22 : decode cX3_init 22 = .ok (.aload_n 0, 1) := by decide +kernel
theorem dX3_init_23 : decode cX3_init 23 = .ok (.sipush 600, 3) := by decide +kernel
theorem dX3_init_26 : decode cX3_init 26 = .ok (.newarray .long, 2) := by decide +kernel
theorem dX3_init_28 : decode cX3_init 28 = .ok (.putfield 18, 3) := by decide +kernel
theorem dX3_init_31 : decode cX3_init 31 = .ok (.return_, 1) := by decide +kernel
theorem dX3_fromRow_0 : decode cX3_fromRow 0 = .ok (.iload_n 2, 1) := by decide +kernel
theorem dX3_fromRow_1 : decode cX3_fromRow 1 = .ok (.iload_n 3, 1) := by decide +kernel
theorem dX3_fromRow_2 : decode cX3_fromRow 2 = .ok (.isub, 1) := by decide +kernel
theorem dX3_fromRow_3 : decode cX3_fromRow 3 = .ok (.istore 5, 2) := by decide +kernel
theorem dX3_fromRow_5 : decode cX3_fromRow 5 = .ok (.iload_n 3, 1) := by decide +kernel
theorem dX3_fromRow_6 : decode cX3_fromRow 6 = .ok (.iconst 1, 1) := by decide +kernel
theorem dX3_fromRow_7 : decode cX3_fromRow 7 = .ok (.if_icmp .lt 23, 3) := by decide +kernel
theorem dX3_fromRow_10 : decode cX3_fromRow 10 = .ok (.iload 5, 2) := by decide +kernel
theorem dX3_fromRow_12 : decode cX3_fromRow 12 = .ok (.ifCond .lt 18, 3) := by decide +kernel
theorem dX3_fromRow_15 : decode cX3_fromRow 15 = .ok (.iload_n 2, 1) := by decide +kernel
theorem dX3_fromRow_16 : decode cX3_fromRow 16 = .ok (.aload_n 1, 1) := by decide +kernel
theorem dX3_fromRow_17 : decode cX3_fromRow 17 = .ok (.arraylength, 1) := by decide +kernel
theorem dX3_fromRow_18 : decode cX3_fromRow 18 = .ok (.if_icmp .gt 12, 3) := by decide +kernel
theorem dX3_fromRow_21 : decode cX3_fromRow 21 = .ok (.iload_n 2, 1) := by decide +kernel
theorem dX3_fromRow_22 : decode cX3_fromRow 22 = .ok (.iload_n 3, 1) := by decide +kernel
theorem dX3_fromRow_23 : decode cX3_fromRow 23 = .ok (.iadd, 1) := by decide +kernel
theorem dX3_fromRow_24 : decode cX3_fromRow 24 = .ok (.sipush 600, 3) := by decide +kernel
theorem dX3_fromRow_27 : decode cX3_fromRow 27 = .ok (.if_icmp .le 5, 3) := by decide +kernel
theorem dX3_fromRow_30 : decode cX3_fromRow 30 = .ok (.aconst_null, 1) := by decide +kernel
theorem dX3_fromRow_31 : decode cX3_fromRow 31 = .ok (.areturn, 1) := by decide +kernel
theorem dX3_fromRow_32 : decode cX3_fromRow 32 = .ok (.iconst 0, 1) := by decide +kernel
theorem dX3_fromRow_33 : decode cX3_fromRow 33 = .ok (.istore 6, 2) := by decide +kernel
theorem dX3_fromRow_35 : decode cX3_fromRow 35 = .ok (.iload 6, 2) := by decide +kernel
theorem dX3_fromRow_37 : decode cX3_fromRow 37 = .ok (.iload_n 2, 1) := by decide +kernel
theorem dX3_fromRow_38 : decode cX3_fromRow 38 = .ok (.if_icmp .ge 20, 3) := by decide +kernel
theorem dX3_fromRow_41 : decode cX3_fromRow 41 = .ok (.aload_n 0, 1) := by decide +kernel
theorem dX3_fromRow_42 : decode cX3_fromRow 42 = .ok (.getfield 11, 3) := by decide +kernel
theorem dX3_fromRow_45 : decode cX3_fromRow 45 = .ok (.iload 6, 2) := by decide +kernel
theorem dX3_fromRow_47 : decode cX3_fromRow 47 = .ok (.aload_n 1, 1) := by decide +kernel
theorem dX3_fromRow_48 : decode cX3_fromRow 48 = .ok (.iload 6, 2) := by decide +kernel
theorem dX3_fromRow_50 : decode cX3_fromRow 50 = .ok (.laload, 1) := by decide +kernel
theorem dX3_fromRow_51 : decode cX3_fromRow 51 = .ok (.lastore, 1) := by decide +kernel
theorem dX3_fromRow_52 : decode cX3_fromRow 52 = .ok (.iinc 6 1, 3) := by decide +kernel
theorem dX3_fromRow_55 : decode cX3_fromRow 55 = .ok (.goto (-20), 3) := by decide +kernel
theorem dX3_fromRow_58 : decode cX3_fromRow 58 = .ok (.iload_n 2, 1) := by decide +kernel
theorem dX3_fromRow_59 : decode cX3_fromRow 59 = .ok (.istore 6, 2) := by decide +kernel
theorem dX3_fromRow_61 : decode cX3_fromRow 61 = .ok (.iload 6, 2) := by decide +kernel
theorem dX3_fromRow_63 : decode cX3_fromRow 63 = .ok (.iload_n 2, 1) := by decide +kernel
theorem dX3_fromRow_64 : decode cX3_fromRow 64 = .ok (.iload_n 3, 1) := by decide +kernel
theorem dX3_fromRow_65 : decode cX3_fromRow 65 = .ok (.iadd, 1) := by decide +kernel
theorem dX3_fromRow_66 : decode cX3_fromRow 66 = .ok (.if_icmp .ge 29, 3) := by decide +kernel
theorem dX3_fromRow_69 : decode cX3_fromRow 69 = .ok (.aload_n 0, 1) := by decide +kernel
theorem dX3_fromRow_70 : decode cX3_fromRow 70 = .ok (.getfield 11, 3) := by decide +kernel
theorem dX3_fromRow_73 : decode cX3_fromRow 73 = .ok (.iload 6, 2) := by decide +kernel
theorem dX3_fromRow_75 : decode cX3_fromRow 75 = .ok (.aload_n 0, 1) := by decide +kernel
theorem dX3_fromRow_76 : decode cX3_fromRow 76 = .ok (.getfield 11, 3) := by decide +kernel
theorem dX3_fromRow_79 : decode cX3_fromRow 79 = .ok (.iload 6, 2) := by decide +kernel
theorem dX3_fromRow_81 : decode cX3_fromRow 81 = .ok (.iload_n 3, 1) := by decide +kernel
theorem dX3_fromRow_82 : decode cX3_fromRow 82 = .ok (.isub, 1) := by decide +kernel
theorem dX3_fromRow_83 : decode cX3_fromRow 83 = .ok (.laload, 1) := by decide +kernel
theorem dX3_fromRow_84 : decode cX3_fromRow 84 = .ok (.iload 4, 2) := by decide +kernel
theorem dX3_fromRow_86 : decode cX3_fromRow 86 = .ok (.i2l, 1) := by decide +kernel
theorem dX3_fromRow_87 : decode cX3_fromRow 87 = .ok (.ladd, 1) := by decide +kernel
theorem dX3_fromRow_88 : decode cX3_fromRow 88 = .ok (.lastore, 1) := by decide +kernel
theorem dX3_fromRow_89 : decode cX3_fromRow 89 = .ok (.iinc 6 1, 3) := by decide +kernel
theorem dX3_fromRow_92 : decode cX3_fromRow 92 = .ok (.goto (-31), 3) := by decide +kernel
theorem dX3_fromRow_95 : decode cX3_fromRow 95 = .ok (.aload_n 0, 1) := by decide +kernel
theorem dX3_fromRow_96 : decode cX3_fromRow 96 = .ok (.iload 5, 2) := by decide +kernel
theorem dX3_fromRow_98 : decode cX3_fromRow 98 = .ok (.iload_n 3, 1) := by decide +kernel
theorem dX3_fromRow_99 : decode cX3_fromRow 99 = .ok (.invokevirtual 21, 3) := by decide +kernel
theorem dX3_fromRow_102 : decode cX3_fromRow 102 = .ok (.areturn, 1) := by decide +kernel
theorem dX3_straight_0 : decode cX3_straight 0 = .ok (.aload_n 0, 1) := by decide +kernel
theorem dX3_straight_1 : decode cX3_straight 1 = .ok (.getfield 11, 3) := by decide +kernel
theorem dX3_straight_4 : decode cX3_straight 4 = .ok (.iconst 0, 1) := by decide +kernel
theorem dX3_straight_5 : decode cX3_straight 5 = .ok (.lconst 0, 1) := by decide +kernel
theorem dX3_straight_6 : decode cX3_straight 6 = .ok (.lastore, 1) := by decide +kernel
theorem dX3_straight_7 : decode cX3_straight 7 = .ok (.aload_n 0, 1) := by decide +kernel
theorem dX3_straight_8 : decode cX3_straight 8 = .ok (.getfield 11, 3) := by decide +kernel
theorem dX3_straight_11 : decode cX3_straight 11 = .ok (.iconst 1, 1) := by decide +kernel
theorem dX3_straight_12 : decode cX3_straight 12 = .ok (.iload_n 1, 1) := by decide +kernel
theorem dX3_straight_13 : decode cX3_straight 13 = .ok (.i2l, 1) := by decide +kernel
theorem dX3_straight_14 : decode cX3_straight 14 = .ok (.lastore, 1) := by decide +kernel
theorem dX3_straight_15 : decode cX3_straight 15 = .ok (.aload_n 0, 1) := by decide +kernel
theorem dX3_straight_16 : decode cX3_straight 16 = .ok (.iconst 0, 1) := by decide +kernel
theorem dX3_straight_17 : decode cX3_straight 17 = .ok (.iconst 1, 1) := by decide +kernel
theorem dX3_straight_18 : decode cX3_straight 18 = .ok (.invokevirtual 21, 3) := by decide +kernel
theorem dX3_straight_21 : decode cX3_straight 21 = .ok (.areturn, 1) := by decide +kernel
theorem dX3_multiplied_0 : decode cX3_multiplied 0 = .ok (.aload_n 1, 1) := by decide +kernel
theorem dX3_multiplied_1 : decode cX3_multiplied 1 = .ok (.getfield 25, 3) := by decide +kernel
theorem dX3_multiplied_4 : decode cX3_multiplied 4 = .ok (.iconst 2, 1) := by decide +kernel
theorem dX3_multiplied_5 : decode cX3_multiplied 5 = .ok (.aload_n 1, 1) := by decide +kernel
theorem dX3_multiplied_6 : decode cX3_multiplied 6 = .ok (.getfield 31, 3) := by decide +kernel
theorem dX3_multiplied_9 : decode cX3_multiplied 9 = .ok (.imul, 1) := by decide +kernel
theorem dX3_multiplied_10 : decode cX3_multiplied 10 = .ok (.iadd, 1) := by decide +kernel
theorem dX3_multiplied_11 : decode cX3_multiplied 11 = .ok (.sipush 600, 3) := by decide +kernel
theorem dX3_multiplied_14 : decode cX3_multiplied 14 = .ok (.invokestatic 34, 3) := by decide +kernel
theorem dX3_multiplied_17 : decode cX3_multiplied 17 = .ok (.istore_n 3, 1) := by decide +kernel
theorem dX3_multiplied_18 : decode cX3_multiplied 18 = .ok (.iconst 0, 1) := by decide +kernel
theorem dX3_multiplied_19 : decode cX3_multiplied 19 = .ok (.istore 4, 2) := by decide +kernel
theorem dX3_multiplied_21 : decode cX3_multiplied 21 = .ok (.iload 4, 2) := by decide +kernel
theorem dX3_multiplied_23 : decode cX3_multiplied 23 = .ok (.iload_n 3, 1) := by decide +kernel
theorem dX3_multiplied_24 : decode cX3_multiplied 24 = .ok (.if_icmp .ge 25, 3) := by decide +kernel
theorem dX3_multiplied_27 : decode cX3_multiplied 27 = .ok (.aload_n 0, 1) := by decide +kernel
theorem dX3_multiplied_28 : decode cX3_multiplied 28 = .ok (.getfield 11, 3) := by decide +kernel
theorem dX3_multiplied_31 : decode cX3_multiplied 31 = .ok (.iload 4, 2) := by decide +kernel
theorem dX3_multiplied_33 : decode cX3_multiplied 33 = .ok (.aload_n 1, 1) := by decide +kernel
theorem dX3_multiplied_34 : decode cX3_multiplied 34 = .ok (.iload 4, 2) := by decide +kernel
theorem dX3_multiplied_36 : decode cX3_multiplied 36 = .ok (.invokevirtual 40, 3) := by decide +kernel
theorem dX3_multiplied_39 : decode cX3_multiplied 39 = .ok (.iload_n 2, 1) := by decide +kernel
theorem dX3_multiplied_40 : decode cX3_multiplied 40 = .ok (.i2l, 1) := by decide +kernel
theorem dX3_multiplied_41 : decode cX3_multiplied 41 = .ok (.lmul, 1) := by decide +kernel
theorem dX3_multiplied_42 : decode cX3_multiplied 42 = .ok (.lastore, 1) := by decide +kernel
theorem dX3_multiplied_43 : decode cX3_multiplied 43 = .ok (.iinc 4 1, 3) := by decide +kernel
theorem dX3_multiplied_46 : decode cX3_multiplied 46 = .ok (.goto (-25), 3) := by decide +kernel
theorem dX3_multiplied_49 : decode cX3_multiplied 49 = .ok (.aload_n 0, 1) := by decide +kernel
theorem dX3_multiplied_50 : decode cX3_multiplied 50 = .ok (.aload_n 1, 1) := by decide +kernel
theorem dX3_multiplied_51 : decode cX3_multiplied 51 = .ok (.getfield 25, 3) := by decide +kernel
theorem dX3_multiplied_54 : decode cX3_multiplied 54 = .ok (.aload_n 1, 1) := by decide +kernel
theorem dX3_multiplied_55 : decode cX3_multiplied 55 = .ok (.getfield 31, 3) := by decide +kernel
theorem dX3_multiplied_58 : decode cX3_multiplied 58 = .ok (.invokevirtual 21, 3) := by decide +kernel
theorem dX3_multiplied_61 : decode cX3_multiplied 61 = .ok (.areturn, 1) := by decide +kernel
theorem dX3_delayed_0 : decode cX3_delayed 0 = .ok (.iload_n 2, 1) := by decide +kernel
theorem dX3_delayed_1 : decode cX3_delayed 1 = .ok (.aload_n 1, 1) := by decide +kernel
theorem dX3_delayed_2 : decode cX3_delayed 2 = .ok (.getfield 25, 3) := by decide +kernel
theorem dX3_delayed_5 : decode cX3_delayed 5 = .ok (.iadd, 1) := by decide +kernel
theorem dX3_delayed_6 : decode cX3_delayed 6 = .ok (.iconst 2, 1) := by decide +kernel
theorem dX3_delayed_7 : decode cX3_delayed 7 = .ok (.aload_n 1, 1) := by decide +kernel
theorem dX3_delayed_8 : decode cX3_delayed 8 = .ok (.getfield 31, 3) := by decide +kernel
theorem dX3_delayed_11 : decode cX3_delayed 11 = .ok (.imul, 1) := by decide +kernel
theorem dX3_delayed_12 : decode cX3_delayed 12 = .ok (.iadd, 1) := by decide +kernel
theorem dX3_delayed_13 : decode cX3_delayed 13 = .ok (.sipush 600, 3) := by decide +kernel
theorem dX3_delayed_16 : decode cX3_delayed 16 = .ok (.invokestatic 34, 3) := by decide +kernel
theorem dX3_delayed_19 : decode cX3_delayed 19 = .ok (.istore_n 3, 1) := by decide +kernel
theorem dX3_delayed_20 : decode cX3_delayed 20 = .ok (.iconst 0, 1) := by decide +kernel
theorem dX3_delayed_21 : decode cX3_delayed 21 = .ok (.istore 4, 2) := by decide +kernel
theorem dX3_delayed_23 : decode cX3_delayed 23 = .ok (.iload 4, 2) := by decide +kernel
theorem dX3_delayed_25 : decode cX3_delayed 25 = .ok (.iload_n 3, 1) := by decide +kernel
theorem dX3_delayed_26 : decode cX3_delayed 26 = .ok (.if_icmp .ge 34, 3) := by decide +kernel
theorem dX3_delayed_29 : decode cX3_delayed 29 = .ok (.aload_n 0, 1) := by decide +kernel
theorem dX3_delayed_30 : decode cX3_delayed 30 = .ok (.getfield 11, 3) := by decide +kernel
theorem dX3_delayed_33 : decode cX3_delayed 33 = .ok (.iload 4, 2) := by decide +kernel
theorem dX3_delayed_35 : decode cX3_delayed 35 = .ok (.iload 4, 2) := by decide +kernel
theorem dX3_delayed_37 : decode cX3_delayed 37 = .ok (.iload_n 2, 1) := by decide +kernel
theorem dX3_delayed_38 : decode cX3_delayed 38 = .ok (.if_icmp .ge 7, 3) := by decide +kernel
theorem dX3_delayed_41 : decode cX3_delayed 41 = .ok (.lconst 0, 1) := by decide +kernel
theorem dX3_delayed_42 : decode cX3_delayed 42 = .ok (.goto 11, 3) := by decide +kernel
theorem dX3_delayed_45 : decode cX3_delayed 45 = .ok (.aload_n 1, 1) := by decide +kernel
theorem dX3_delayed_46 : decode cX3_delayed 46 = .ok (.iload 4, 2) := by decide +kernel
theorem dX3_delayed_48 : decode cX3_delayed 48 = .ok (.iload_n 2, 1) := by decide +kernel
theorem dX3_delayed_49 : decode cX3_delayed 49 = .ok (.isub, 1) := by decide +kernel
theorem dX3_delayed_50 : decode cX3_delayed 50 = .ok (.invokevirtual 40, 3) := by decide +kernel
theorem dX3_delayed_53 : decode cX3_delayed 53 = .ok (.lastore, 1) := by decide +kernel
theorem dX3_delayed_54 : decode cX3_delayed 54 = .ok (.iinc 4 1, 3) := by decide +kernel
theorem dX3_delayed_57 : decode cX3_delayed 57 = .ok (.goto (-34), 3) := by decide +kernel
theorem dX3_delayed_60 : decode cX3_delayed 60 = .ok (.aload_n 0, 1) := by decide +kernel
theorem dX3_delayed_61 : decode cX3_delayed 61 = .ok (.iload_n 2, 1) := by decide +kernel
theorem dX3_delayed_62 : decode cX3_delayed 62 = .ok (.aload_n 1, 1) := by decide +kernel
theorem dX3_delayed_63 : decode cX3_delayed 63 = .ok (.getfield 25, 3) := by decide +kernel
theorem dX3_delayed_66 : decode cX3_delayed 66 = .ok (.iadd, 1) := by decide +kernel
theorem dX3_delayed_67 : decode cX3_delayed 67 = .ok (.aload_n 1, 1) := by decide +kernel
theorem dX3_delayed_68 : decode cX3_delayed 68 = .ok (.getfield 31, 3) := by decide +kernel
theorem dX3_delayed_71 : decode cX3_delayed 71 = .ok (.invokevirtual 21, 3) := by decide +kernel
theorem dX3_delayed_74 : decode cX3_delayed 74 = .ok (.areturn, 1) := by decide +kernel
theorem dX3_fromBoth_0 : decode cX3_fromBoth 0 = .ok (.iload_n 1, 1) := by decide +kernel
theorem dX3_fromBoth_1 : decode cX3_fromBoth 1 = .ok (.iconst 4, 1) := by decide +kernel
theorem dX3_fromBoth_2 : decode cX3_fromBoth 2 = .ok (.if_icmp .ne 24, 3) := by decide +kernel
theorem dX3_fromBoth_5 : decode cX3_fromBoth 5 = .ok (.sipush 200, 3) := by decide +kernel
theorem dX3_fromBoth_8 : decode cX3_fromBoth 8 = .ok (.aload_n 2, 1) := by decide +kernel
theorem dX3_fromBoth_9 : decode cX3_fromBoth 9 = .ok (.getfield 25, 3) := by decide +kernel
theorem dX3_fromBoth_12 : decode cX3_fromBoth 12 = .ok (.aload_n 3, 1) := by decide +kernel
theorem dX3_fromBoth_13 : decode cX3_fromBoth 13 = .ok (.getfield 25, 3) := by decide +kernel
theorem dX3_fromBoth_16 : decode cX3_fromBoth 16 = .ok (.iadd, 1) := by decide +kernel
theorem dX3_fromBoth_17 : decode cX3_fromBoth 17 = .ok (.iload 4, 2) := by decide +kernel
theorem dX3_fromBoth_19 : decode cX3_fromBoth 19 = .ok (.iadd, 1) := by decide +kernel
theorem dX3_fromBoth_20 : decode cX3_fromBoth 20 = .ok (.invokestatic 44, 3) := by decide +kernel
theorem dX3_fromBoth_23 : decode cX3_fromBoth 23 = .ok (.goto 6, 3) := by decide +kernel
theorem dX3_fromBoth_26 : decode cX3_fromBoth 26 = .ok (.sipush 200, 3) := by decide +kernel
theorem dX3_fromBoth_29 : decode cX3_fromBoth 29 = .ok (.istore 5, 2) := by decide +kernel
theorem dX3_fromBoth_31 : decode cX3_fromBoth 31 = .ok (.iload 5, 2) := by decide +kernel
theorem dX3_fromBoth_33 : decode cX3_fromBoth 33 = .ok (.iconst 2, 1) := by decide +kernel
theorem dX3_fromBoth_34 : decode cX3_fromBoth 34 = .ok (.iload 4, 2) := by decide +kernel
theorem dX3_fromBoth_36 : decode cX3_fromBoth 36 = .ok (.imul, 1) := by decide +kernel
theorem dX3_fromBoth_37 : decode cX3_fromBoth 37 = .ok (.iadd, 1) := by decide +kernel
theorem dX3_fromBoth_38 : decode cX3_fromBoth 38 = .ok (.istore 6, 2) := by decide +kernel
theorem dX3_fromBoth_40 : decode cX3_fromBoth 40 = .ok (.iload 4, 2) := by decide +kernel
theorem dX3_fromBoth_42 : decode cX3_fromBoth 42 = .ok (.iconst 1, 1) := by decide +kernel
theorem dX3_fromBoth_43 : decode cX3_fromBoth 43 = .ok (.if_icmp .lt 11, 3) := by decide +kernel
theorem dX3_fromBoth_46 : decode cX3_fromBoth 46 = .ok (.iload 6, 2) := by decide +kernel
theorem dX3_fromBoth_48 : decode cX3_fromBoth 48 = .ok (.sipush 600, 3) := by decide +kernel
theorem dX3_fromBoth_51 : decode cX3_fromBoth 51 = .ok (.if_icmp .le 5, 3) := by decide +kernel
theorem dX3_fromBoth_54 : decode cX3_fromBoth 54 = .ok (.aconst_null, 1) := by decide +kernel
theorem dX3_fromBoth_55 : decode cX3_fromBoth 55 = .ok (.areturn, 1) := by decide +kernel
theorem dX3_fromBoth_56 : decode cX3_fromBoth 56 = .ok (.aload_n 2, 1) := by decide +kernel
theorem dX3_fromBoth_57 : decode cX3_fromBoth 57 = .ok (.aload_n 0, 1) := by decide +kernel
theorem dX3_fromBoth_58 : decode cX3_fromBoth 58 = .ok (.getfield 15, 3) := by decide +kernel
theorem dX3_fromBoth_61 : decode cX3_fromBoth 61 = .ok (.invokestatic 47, 3) := by decide +kernel
theorem dX3_fromBoth_64 : decode cX3_fromBoth 64 = .ok (.aload_n 3, 1) := by decide +kernel
theorem dX3_fromBoth_65 : decode cX3_fromBoth 65 = .ok (.aload_n 0, 1) := by decide +kernel
theorem dX3_fromBoth_66 : decode cX3_fromBoth 66 = .ok (.getfield 18, 3) := by decide +kernel
theorem dX3_fromBoth_69 : decode cX3_fromBoth 69 = .ok (.invokestatic 47, 3) := by decide +kernel
theorem dX3_fromBoth_72 : decode cX3_fromBoth 72 = .ok (.iload_n 1, 1) := by decide +kernel
theorem dX3_fromBoth_73 : decode cX3_fromBoth 73 = .ok (.tableswitch 104 0 5 #[39, 39, 39, 49, 58, 81], 39) := by decide +kernel
theorem dX3_fromBoth_112 : decode cX3_fromBoth 112 = .ok (.aload_n 0, 1) := by decide +kernel
theorem dX3_fromBoth_113 : decode cX3_fromBoth 113 = .ok (.iload_n 1, 1) := by decide +kernel
theorem dX3_fromBoth_114 : decode cX3_fromBoth 114 = .ok (.iload 6, 2) := by decide +kernel
theorem dX3_fromBoth_116 : decode cX3_fromBoth 116 = .ok (.invokevirtual 51, 3) := by decide +kernel
theorem dX3_fromBoth_119 : decode cX3_fromBoth 119 = .ok (.goto 60, 3) := by decide +kernel
theorem dX3_fromBoth_122 : decode cX3_fromBoth 122 = .ok (.aload_n 0, 1) := by decide +kernel
theorem dX3_fromBoth_123 : decode cX3_fromBoth 123 = .ok (.iload 6, 2) := by decide +kernel
theorem dX3_fromBoth_125 : decode cX3_fromBoth 125 = .ok (.invokevirtual 55, 3) := by decide +kernel
theorem dX3_fromBoth_128 : decode cX3_fromBoth 128 = .ok (.goto 51, 3) := by decide +kernel
theorem dX3_fromBoth_131 : decode cX3_fromBoth 131 = .ok (.aload_n 0, 1) := by decide +kernel
theorem dX3_fromBoth_132 : decode cX3_fromBoth 132 = .ok (.iload 6, 2) := by decide +kernel
theorem dX3_fromBoth_134 : decode cX3_fromBoth 134 = .ok (.aload_n 2, 1) := by decide +kernel
theorem dX3_fromBoth_135 : decode cX3_fromBoth 135 = .ok (.getfield 25, 3) := by decide +kernel
theorem dX3_fromBoth_138 : decode cX3_fromBoth 138 = .ok (.iload 4, 2) := by decide +kernel
theorem dX3_fromBoth_140 : decode cX3_fromBoth 140 = .ok (.iadd, 1) := by decide +kernel
theorem dX3_fromBoth_141 : decode cX3_fromBoth 141 = .ok (.aload_n 3, 1) := by decide +kernel
theorem dX3_fromBoth_142 : decode cX3_fromBoth 142 = .ok (.getfield 25, 3) := by decide +kernel
theorem dX3_fromBoth_145 : decode cX3_fromBoth 145 = .ok (.iload 4, 2) := by decide +kernel
theorem dX3_fromBoth_147 : decode cX3_fromBoth 147 = .ok (.iadd, 1) := by decide +kernel
theorem dX3_fromBoth_148 : decode cX3_fromBoth 148 = .ok (.invokevirtual 59, 3) := by decide +kernel
theorem dX3_fromBoth_151 : decode cX3_fromBoth 151 = .ok (.goto 28, 3) := by decide +kernel
theorem dX3_fromBoth_154 : decode cX3_fromBoth 154 = .ok (.aload_n 0, 1) := by decide +kernel
theorem dX3_fromBoth_155 : decode cX3_fromBoth 155 = .ok (.iload 6, 2) := by decide +kernel
theorem dX3_fromBoth_157 : decode cX3_fromBoth 157 = .ok (.aload_n 2, 1) := by decide +kernel
theorem dX3_fromBoth_158 : decode cX3_fromBoth 158 = .ok (.getfield 25, 3) := by decide +kernel
theorem dX3_fromBoth_161 : decode cX3_fromBoth 161 = .ok (.aload_n 3, 1) := by decide +kernel
theorem dX3_fromBoth_162 : decode cX3_fromBoth 162 = .ok (.getfield 25, 3) := by decide +kernel
theorem dX3_fromBoth_165 : decode cX3_fromBoth 165 = .ok (.invokestatic 44, 3) := by decide +kernel
theorem dX3_fromBoth_168 : decode cX3_fromBoth 168 = .ok (.iload 4, 2) := by decide +kernel
theorem dX3_fromBoth_170 : decode cX3_fromBoth 170 = .ok (.iadd, 1) := by decide +kernel
theorem dX3_fromBoth_171 : decode cX3_fromBoth 171 = .ok (.invokevirtual 63, 3) := by decide +kernel
theorem dX3_fromBoth_174 : decode cX3_fromBoth 174 = .ok (.goto 5, 3) := by decide +kernel
theorem dX3_fromBoth_177 : decode cX3_fromBoth 177 = .ok (.aconst_null, 1) := by decide +kernel
theorem dX3_fromBoth_178 : decode cX3_fromBoth 178 = .ok (.areturn, 1) := by decide +kernel
theorem dX3_fromBoth_179 : decode cX3_fromBoth 179 = .ok (.aload_n 0, 1) := by decide +kernel
theorem dX3_fromBoth_180 : decode cX3_fromBoth 180 = .ok (.iload 5, 2) := by decide +kernel
theorem dX3_fromBoth_182 : decode cX3_fromBoth 182 = .ok (.iload 4, 2) := by decide +kernel
theorem dX3_fromBoth_184 : decode cX3_fromBoth 184 = .ok (.iload_n 1, 1) := by decide +kernel
theorem dX3_fromBoth_185 : decode cX3_fromBoth 185 = .ok (.aload_n 2, 1) := by decide +kernel
theorem dX3_fromBoth_186 : decode cX3_fromBoth 186 = .ok (.iload 4, 2) := by decide +kernel
theorem dX3_fromBoth_188 : decode cX3_fromBoth 188 = .ok (.invokevirtual 66, 3) := by decide +kernel
theorem dX3_fromBoth_191 : decode cX3_fromBoth 191 = .ok (.aload_n 3, 1) := by decide +kernel
theorem dX3_fromBoth_192 : decode cX3_fromBoth 192 = .ok (.iload 4, 2) := by decide +kernel
theorem dX3_fromBoth_194 : decode cX3_fromBoth 194 = .ok (.invokevirtual 66, 3) := by decide +kernel
theorem dX3_fromBoth_197 : decode cX3_fromBoth 197 = .ok (.invokestatic 69, 3) := by decide +kernel
theorem dX3_fromBoth_200 : decode cX3_fromBoth 200 = .ok (.invokevirtual 73, 3) := by decide +kernel
theorem dX3_fromBoth_203 : decode cX3_fromBoth 203 = .ok (.ifCond .ne 5, 3) := by decide +kernel
theorem dX3_fromBoth_206 : decode cX3_fromBoth 206 = .ok (.aconst_null, 1) := by decide +kernel
theorem dX3_fromBoth_207 : decode cX3_fromBoth 207 = .ok (.areturn, 1) := by decide +kernel
theorem dX3_fromBoth_208 : decode cX3_fromBoth 208 = .ok (.aload_n 0, 1) := by decide +kernel
theorem dX3_fromBoth_209 : decode cX3_fromBoth 209 = .ok (.iload 5, 2) := by decide +kernel
theorem dX3_fromBoth_211 : decode cX3_fromBoth 211 = .ok (.iload 4, 2) := by decide +kernel
theorem dX3_fromBoth_213 : decode cX3_fromBoth 213 = .ok (.invokevirtual 21, 3) := by decide +kernel
theorem dX3_fromBoth_216 : decode cX3_fromBoth 216 = .ok (.areturn, 1) := by decide +kernel
theorem dX3_gainOf_0 : decode cX3_gainOf 0 = .ok (.iload_n 0, 1) := by decide +kernel
theorem dX3_gainOf_1 : decode cX3_gainOf 1 = .ok (.tableswitch 59 0 5 #[39, 59, 43, 49, 59, 57], 39) := by decide +kernel
theorem dX3_gainOf_40 : decode cX3_gainOf 40 = .ok (.lload_n 1, 1) := by decide +kernel
theorem dX3_gainOf_41 : decode cX3_gainOf 41 = .ok (.lload_n 3, 1) := by decide +kernel
theorem dX3_gainOf_42 : decode cX3_gainOf 42 = .ok (.ladd, 1) := by decide +kernel
theorem dX3_gainOf_43 : decode cX3_gainOf 43 = .ok (.lreturn, 1) := by decide +kernel
theorem dX3_gainOf_44 : decode cX3_gainOf 44 = .ok (.lload_n 1, 1) := by decide +kernel
theorem dX3_gainOf_45 : decode cX3_gainOf 45 = .ok (.lload_n 3, 1) := by decide +kernel
theorem dX3_gainOf_46 : decode cX3_gainOf 46 = .ok (.invokestatic 77, 3) := by decide +kernel
theorem dX3_gainOf_49 : decode cX3_gainOf 49 = .ok (.lreturn, 1) := by decide +kernel
theorem dX3_gainOf_50 : decode cX3_gainOf 50 = .ok (.lconst 0, 1) := by decide +kernel
theorem dX3_gainOf_51 : decode cX3_gainOf 51 = .ok (.lload_n 1, 1) := by decide +kernel
theorem dX3_gainOf_52 : decode cX3_gainOf 52 = .ok (.lload_n 3, 1) := by decide +kernel
theorem dX3_gainOf_53 : decode cX3_gainOf 53 = .ok (.lsub, 1) := by decide +kernel
theorem dX3_gainOf_54 : decode cX3_gainOf 54 = .ok (.invokestatic 77, 3) := by decide +kernel
theorem dX3_gainOf_57 : decode cX3_gainOf 57 = .ok (.lreturn, 1) := by decide +kernel
theorem dX3_gainOf_58 : decode cX3_gainOf 58 = .ok (.lload_n 1, 1) := by decide +kernel
theorem dX3_gainOf_59 : decode cX3_gainOf 59 = .ok (.lreturn, 1) := by decide +kernel
theorem dX3_gainOf_60 : decode cX3_gainOf 60 = .ok (.lload_n 1, 1) := by decide +kernel
theorem dX3_gainOf_61 : decode cX3_gainOf 61 = .ok (.lload_n 3, 1) := by decide +kernel
theorem dX3_gainOf_62 : decode cX3_gainOf 62 = .ok (.invokestatic 80, 3) := by decide +kernel
theorem dX3_gainOf_65 : decode cX3_gainOf 65 = .ok (.lreturn, 1) := by decide +kernel
theorem dX3_spread_0 : decode cX3_spread 0 = .ok (.iconst 0, 1) := by decide +kernel
theorem dX3_spread_1 : decode cX3_spread 1 = .ok (.istore_n 2, 1) := by decide +kernel
theorem dX3_spread_2 : decode cX3_spread 2 = .ok (.iload_n 2, 1) := by decide +kernel
theorem dX3_spread_3 : decode cX3_spread 3 = .ok (.aload_n 1, 1) := by decide +kernel
theorem dX3_spread_4 : decode cX3_spread 4 = .ok (.arraylength, 1) := by decide +kernel
theorem dX3_spread_5 : decode cX3_spread 5 = .ok (.if_icmp .ge 17, 3) := by decide +kernel
theorem dX3_spread_8 : decode cX3_spread 8 = .ok (.aload_n 1, 1) := by decide +kernel
theorem dX3_spread_9 : decode cX3_spread 9 = .ok (.iload_n 2, 1) := by decide +kernel
theorem dX3_spread_10 : decode cX3_spread 10 = .ok (.aload_n 0, 1) := by decide +kernel
theorem dX3_spread_11 : decode cX3_spread 11 = .ok (.iload_n 2, 1) := by decide +kernel
theorem dX3_spread_12 : decode cX3_spread 12 = .ok (.invokevirtual 40, 3) := by decide +kernel
theorem dX3_spread_15 : decode cX3_spread 15 = .ok (.lastore, 1) := by decide +kernel
theorem dX3_spread_16 : decode cX3_spread 16 = .ok (.iinc 2 1, 3) := by decide +kernel
theorem dX3_spread_19 : decode cX3_spread 19 = .ok (.goto (-17), 3) := by decide +kernel
theorem dX3_spread_22 : decode cX3_spread 22 = .ok (.return_, 1) := by decide +kernel
theorem dX3_laySideBySide_0 : decode cX3_laySideBySide 0 = .ok (.iconst 0, 1) := by decide +kernel
theorem dX3_laySideBySide_1 : decode cX3_laySideBySide 1 = .ok (.istore_n 3, 1) := by decide +kernel
theorem dX3_laySideBySide_2 : decode cX3_laySideBySide 2 = .ok (.iload_n 3, 1) := by decide +kernel
theorem dX3_laySideBySide_3 : decode cX3_laySideBySide 3 = .ok (.iload_n 2, 1) := by decide +kernel
theorem dX3_laySideBySide_4 : decode cX3_laySideBySide 4 = .ok (.if_icmp .ge 92, 3) := by decide +kernel
theorem dX3_laySideBySide_7 : decode cX3_laySideBySide 7 = .ok (.iload_n 3, 1) := by decide +kernel
theorem dX3_laySideBySide_8 : decode cX3_laySideBySide 8 = .ok (.sipush 600, 3) := by decide +kernel
theorem dX3_laySideBySide_11 : decode cX3_laySideBySide 11 = .ok (.if_icmp .ge 85, 3) := by decide +kernel
theorem dX3_laySideBySide_14 : decode cX3_laySideBySide 14 = .ok (.iload_n 1, 1) := by decide +kernel
theorem dX3_laySideBySide_15 : decode cX3_laySideBySide 15 = .ok (.ifCond .ne 25, 3) := by decide +kernel
theorem dX3_laySideBySide_18 : decode cX3_laySideBySide 18 = .ok (.aload_n 0, 1) := by decide +kernel
theorem dX3_laySideBySide_19 : decode cX3_laySideBySide 19 = .ok (.getfield 11, 3) := by decide +kernel
theorem dX3_laySideBySide_22 : decode cX3_laySideBySide 22 = .ok (.iload_n 3, 1) := by decide +kernel
theorem dX3_laySideBySide_23 : decode cX3_laySideBySide 23 = .ok (.aload_n 0, 1) := by decide +kernel
theorem dX3_laySideBySide_24 : decode cX3_laySideBySide 24 = .ok (.getfield 15, 3) := by decide +kernel
theorem dX3_laySideBySide_27 : decode cX3_laySideBySide 27 = .ok (.iload_n 3, 1) := by decide +kernel
theorem dX3_laySideBySide_28 : decode cX3_laySideBySide 28 = .ok (.laload, 1) := by decide +kernel
theorem dX3_laySideBySide_29 : decode cX3_laySideBySide 29 = .ok (.aload_n 0, 1) := by decide +kernel
theorem dX3_laySideBySide_30 : decode cX3_laySideBySide 30 = .ok (.getfield 18, 3) := by decide +kernel
theorem dX3_laySideBySide_33 : decode cX3_laySideBySide 33 = .ok (.iload_n 3, 1) := by decide +kernel
theorem dX3_laySideBySide_34 : decode cX3_laySideBySide 34 = .ok (.laload, 1) := by decide +kernel
theorem dX3_laySideBySide_35 : decode cX3_laySideBySide 35 = .ok (.ladd, 1) := by decide +kernel
theorem dX3_laySideBySide_36 : decode cX3_laySideBySide 36 = .ok (.lastore, 1) := by decide +kernel
theorem dX3_laySideBySide_37 : decode cX3_laySideBySide 37 = .ok (.goto 53, 3) := by decide +kernel
theorem dX3_laySideBySide_40 : decode cX3_laySideBySide 40 = .ok (.iload_n 1, 1) := by decide +kernel
theorem dX3_laySideBySide_41 : decode cX3_laySideBySide 41 = .ok (.iconst 1, 1) := by decide +kernel
theorem dX3_laySideBySide_42 : decode cX3_laySideBySide 42 = .ok (.if_icmp .ne 27, 3) := by decide +kernel
theorem dX3_laySideBySide_45 : decode cX3_laySideBySide 45 = .ok (.aload_n 0, 1) := by decide +kernel
theorem dX3_laySideBySide_46 : decode cX3_laySideBySide 46 = .ok (.getfield 11, 3) := by decide +kernel
theorem dX3_laySideBySide_49 : decode cX3_laySideBySide 49 = .ok (.iload_n 3, 1) := by decide +kernel
theorem dX3_laySideBySide_50 : decode cX3_laySideBySide 50 = .ok (.aload_n 0, 1) := by decide +kernel
theorem dX3_laySideBySide_51 : decode cX3_laySideBySide 51 = .ok (.getfield 15, 3) := by decide +kernel
theorem dX3_laySideBySide_54 : decode cX3_laySideBySide 54 = .ok (.iload_n 3, 1) := by decide +kernel
theorem dX3_laySideBySide_55 : decode cX3_laySideBySide 55 = .ok (.laload, 1) := by decide +kernel
theorem dX3_laySideBySide_56 : decode cX3_laySideBySide 56 = .ok (.aload_n 0, 1) := by decide +kernel
theorem dX3_laySideBySide_57 : decode cX3_laySideBySide 57 = .ok (.getfield 18, 3) := by decide +kernel
theorem dX3_laySideBySide_60 : decode cX3_laySideBySide 60 = .ok (.iload_n 3, 1) := by decide +kernel
theorem dX3_laySideBySide_61 : decode cX3_laySideBySide 61 = .ok (.laload, 1) := by decide +kernel
theorem dX3_laySideBySide_62 : decode cX3_laySideBySide 62 = .ok (.invokestatic 80, 3) := by decide +kernel
theorem dX3_laySideBySide_65 : decode cX3_laySideBySide 65 = .ok (.lastore, 1) := by decide +kernel
theorem dX3_laySideBySide_66 : decode cX3_laySideBySide 66 = .ok (.goto 24, 3) := by decide +kernel
theorem dX3_laySideBySide_69 : decode cX3_laySideBySide 69 = .ok (.aload_n 0, 1) := by decide +kernel
theorem dX3_laySideBySide_70 : decode cX3_laySideBySide 70 = .ok (.getfield 11, 3) := by decide +kernel
theorem dX3_laySideBySide_73 : decode cX3_laySideBySide 73 = .ok (.iload_n 3, 1) := by decide +kernel
theorem dX3_laySideBySide_74 : decode cX3_laySideBySide 74 = .ok (.aload_n 0, 1) := by decide +kernel
theorem dX3_laySideBySide_75 : decode cX3_laySideBySide 75 = .ok (.getfield 15, 3) := by decide +kernel
theorem dX3_laySideBySide_78 : decode cX3_laySideBySide 78 = .ok (.iload_n 3, 1) := by decide +kernel
theorem dX3_laySideBySide_79 : decode cX3_laySideBySide 79 = .ok (.laload, 1) := by decide +kernel
theorem dX3_laySideBySide_80 : decode cX3_laySideBySide 80 = .ok (.aload_n 0, 1) := by decide +kernel
theorem dX3_laySideBySide_81 : decode cX3_laySideBySide 81 = .ok (.getfield 18, 3) := by decide +kernel
theorem dX3_laySideBySide_84 : decode cX3_laySideBySide 84 = .ok (.iload_n 3, 1) := by decide +kernel
theorem dX3_laySideBySide_85 : decode cX3_laySideBySide 85 = .ok (.laload, 1) := by decide +kernel
theorem dX3_laySideBySide_86 : decode cX3_laySideBySide 86 = .ok (.invokestatic 77, 3) := by decide +kernel
theorem dX3_laySideBySide_89 : decode cX3_laySideBySide 89 = .ok (.lastore, 1) := by decide +kernel
theorem dX3_laySideBySide_90 : decode cX3_laySideBySide 90 = .ok (.iinc 3 1, 3) := by decide +kernel
theorem dX3_laySideBySide_93 : decode cX3_laySideBySide 93 = .ok (.goto (-91), 3) := by decide +kernel
theorem dX3_laySideBySide_96 : decode cX3_laySideBySide 96 = .ok (.return_, 1) := by decide +kernel
theorem dX3_layRest_0 : decode cX3_layRest 0 = .ok (.lconst 0, 1) := by decide +kernel
theorem dX3_layRest_1 : decode cX3_layRest 1 = .ok (.lstore_n 2, 1) := by decide +kernel
theorem dX3_layRest_2 : decode cX3_layRest 2 = .ok (.iconst 0, 1) := by decide +kernel
theorem dX3_layRest_3 : decode cX3_layRest 3 = .ok (.istore 4, 2) := by decide +kernel
theorem dX3_layRest_5 : decode cX3_layRest 5 = .ok (.iload 4, 2) := by decide +kernel
theorem dX3_layRest_7 : decode cX3_layRest 7 = .ok (.iload_n 1, 1) := by decide +kernel
theorem dX3_layRest_8 : decode cX3_layRest 8 = .ok (.if_icmp .ge 45, 3) := by decide +kernel
theorem dX3_layRest_11 : decode cX3_layRest 11 = .ok (.iload 4, 2) := by decide +kernel
theorem dX3_layRest_13 : decode cX3_layRest 13 = .ok (.sipush 600, 3) := by decide +kernel
theorem dX3_layRest_16 : decode cX3_layRest 16 = .ok (.if_icmp .ge 37, 3) := by decide +kernel
theorem dX3_layRest_19 : decode cX3_layRest 19 = .ok (.lload_n 2, 1) := by decide +kernel
theorem dX3_layRest_20 : decode cX3_layRest 20 = .ok (.aload_n 0, 1) := by decide +kernel
theorem dX3_layRest_21 : decode cX3_layRest 21 = .ok (.getfield 15, 3) := by decide +kernel
theorem dX3_layRest_24 : decode cX3_layRest 24 = .ok (.iload 4, 2) := by decide +kernel
theorem dX3_layRest_26 : decode cX3_layRest 26 = .ok (.laload, 1) := by decide +kernel
theorem dX3_layRest_27 : decode cX3_layRest 27 = .ok (.aload_n 0, 1) := by decide +kernel
theorem dX3_layRest_28 : decode cX3_layRest 28 = .ok (.getfield 18, 3) := by decide +kernel
theorem dX3_layRest_31 : decode cX3_layRest 31 = .ok (.iload 4, 2) := by decide +kernel
theorem dX3_layRest_33 : decode cX3_layRest 33 = .ok (.laload, 1) := by decide +kernel
theorem dX3_layRest_34 : decode cX3_layRest 34 = .ok (.lsub, 1) := by decide +kernel
theorem dX3_layRest_35 : decode cX3_layRest 35 = .ok (.invokestatic 77, 3) := by decide +kernel
theorem dX3_layRest_38 : decode cX3_layRest 38 = .ok (.lstore_n 2, 1) := by decide +kernel
theorem dX3_layRest_39 : decode cX3_layRest 39 = .ok (.aload_n 0, 1) := by decide +kernel
theorem dX3_layRest_40 : decode cX3_layRest 40 = .ok (.getfield 11, 3) := by decide +kernel
theorem dX3_layRest_43 : decode cX3_layRest 43 = .ok (.iload 4, 2) := by decide +kernel
theorem dX3_layRest_45 : decode cX3_layRest 45 = .ok (.lload_n 2, 1) := by decide +kernel
theorem dX3_layRest_46 : decode cX3_layRest 46 = .ok (.lastore, 1) := by decide +kernel
theorem dX3_layRest_47 : decode cX3_layRest 47 = .ok (.iinc 4 1, 3) := by decide +kernel
theorem dX3_layRest_50 : decode cX3_layRest 50 = .ok (.goto (-45), 3) := by decide +kernel
theorem dX3_layRest_53 : decode cX3_layRest 53 = .ok (.return_, 1) := by decide +kernel
theorem dX3_layBoth_0 : decode cX3_layBoth 0 = .ok (.iconst 0, 1) := by decide +kernel
theorem dX3_layBoth_1 : decode cX3_layBoth 1 = .ok (.istore 4, 2) := by decide +kernel
theorem dX3_layBoth_3 : decode cX3_layBoth 3 = .ok (.iload 4, 2) := by decide +kernel
theorem dX3_layBoth_5 : decode cX3_layBoth 5 = .ok (.iload_n 1, 1) := by decide +kernel
theorem dX3_layBoth_6 : decode cX3_layBoth 6 = .ok (.if_icmp .ge 32, 3) := by decide +kernel
theorem dX3_layBoth_9 : decode cX3_layBoth 9 = .ok (.iload 4, 2) := by decide +kernel
theorem dX3_layBoth_11 : decode cX3_layBoth 11 = .ok (.sipush 600, 3) := by decide +kernel
theorem dX3_layBoth_14 : decode cX3_layBoth 14 = .ok (.if_icmp .ge 24, 3) := by decide +kernel
theorem dX3_layBoth_17 : decode cX3_layBoth 17 = .ok (.aload_n 0, 1) := by decide +kernel
theorem dX3_layBoth_18 : decode cX3_layBoth 18 = .ok (.getfield 11, 3) := by decide +kernel
theorem dX3_layBoth_21 : decode cX3_layBoth 21 = .ok (.iload 4, 2) := by decide +kernel
theorem dX3_layBoth_23 : decode cX3_layBoth 23 = .ok (.aload_n 0, 1) := by decide +kernel
theorem dX3_layBoth_24 : decode cX3_layBoth 24 = .ok (.iload 4, 2) := by decide +kernel
theorem dX3_layBoth_26 : decode cX3_layBoth 26 = .ok (.iload_n 2, 1) := by decide +kernel
theorem dX3_layBoth_27 : decode cX3_layBoth 27 = .ok (.iload_n 3, 1) := by decide +kernel
theorem dX3_layBoth_28 : decode cX3_layBoth 28 = .ok (.invokevirtual 82, 3) := by decide +kernel
theorem dX3_layBoth_31 : decode cX3_layBoth 31 = .ok (.lastore, 1) := by decide +kernel
theorem dX3_layBoth_32 : decode cX3_layBoth 32 = .ok (.iinc 4 1, 3) := by decide +kernel
theorem dX3_layBoth_35 : decode cX3_layBoth 35 = .ok (.goto (-32), 3) := by decide +kernel
theorem dX3_layBoth_38 : decode cX3_layBoth 38 = .ok (.return_, 1) := by decide +kernel
theorem dX3_leastTogether_0 : decode cX3_leastTogether 0 = .ok (.iload_n 1, 1) := by decide +kernel
theorem dX3_leastTogether_1 : decode cX3_leastTogether 1 = .ok (.ifCond .lt 10, 3) := by decide +kernel
theorem dX3_leastTogether_4 : decode cX3_leastTogether 4 = .ok (.iload_n 1, 1) := by decide +kernel
theorem dX3_leastTogether_5 : decode cX3_leastTogether 5 = .ok (.sipush 600, 3) := by decide +kernel
theorem dX3_leastTogether_8 : decode cX3_leastTogether 8 = .ok (.if_icmp .lt 5, 3) := by decide +kernel
theorem dX3_leastTogether_11 : decode cX3_leastTogether 11 = .ok (.lconst 0, 1) := by decide +kernel
theorem dX3_leastTogether_12 : decode cX3_leastTogether 12 = .ok (.lreturn, 1) := by decide +kernel
theorem dX3_leastTogether_13 : decode cX3_leastTogether 13 = .ok (.aload_n 0, 1) := by decide +kernel
theorem dX3_leastTogether_14 : decode cX3_leastTogether 14 = .ok (.getfield 15, 3) := by decide +kernel
theorem dX3_leastTogether_17 : decode cX3_leastTogether 17 = .ok (.iload_n 1, 1) := by decide +kernel
theorem dX3_leastTogether_18 : decode cX3_leastTogether 18 = .ok (.laload, 1) := by decide +kernel
theorem dX3_leastTogether_19 : decode cX3_leastTogether 19 = .ok (.aload_n 0, 1) := by decide +kernel
theorem dX3_leastTogether_20 : decode cX3_leastTogether 20 = .ok (.getfield 18, 3) := by decide +kernel
theorem dX3_leastTogether_23 : decode cX3_leastTogether 23 = .ok (.iconst 0, 1) := by decide +kernel
theorem dX3_leastTogether_24 : decode cX3_leastTogether 24 = .ok (.laload, 1) := by decide +kernel
theorem dX3_leastTogether_25 : decode cX3_leastTogether 25 = .ok (.ladd, 1) := by decide +kernel
theorem dX3_leastTogether_26 : decode cX3_leastTogether 26 = .ok (.lstore 4, 2) := by decide +kernel
theorem dX3_leastTogether_28 : decode cX3_leastTogether 28 = .ok (.iload_n 2, 1) := by decide +kernel
theorem dX3_leastTogether_29 : decode cX3_leastTogether 29 = .ok (.iload_n 1, 1) := by decide +kernel
theorem dX3_leastTogether_30 : decode cX3_leastTogether 30 = .ok (.iconst 1, 1) := by decide +kernel
theorem dX3_leastTogether_31 : decode cX3_leastTogether 31 = .ok (.iadd, 1) := by decide +kernel
theorem dX3_leastTogether_32 : decode cX3_leastTogether 32 = .ok (.invokestatic 34, 3) := by decide +kernel
theorem dX3_leastTogether_35 : decode cX3_leastTogether 35 = .ok (.istore 6, 2) := by decide +kernel
theorem dX3_leastTogether_37 : decode cX3_leastTogether 37 = .ok (.iconst 0, 1) := by decide +kernel
theorem dX3_leastTogether_38 : decode cX3_leastTogether 38 = .ok (.istore 7, 2) := by decide +kernel
theorem dX3_leastTogether_40 : decode cX3_leastTogether 40 = .ok (.iload 7, 2) := by decide +kernel
theorem dX3_leastTogether_42 : decode cX3_leastTogether 42 = .ok (.iload 6, 2) := by decide +kernel
theorem dX3_leastTogether_44 : decode cX3_leastTogether 44 = .ok (.if_icmp .ge 33, 3) := by decide +kernel
theorem dX3_leastTogether_47 : decode cX3_leastTogether 47 = .ok (.lload 4, 2) := by decide +kernel
theorem dX3_leastTogether_49 : decode cX3_leastTogether 49 = .ok (.aload_n 0, 1) := by decide +kernel
theorem dX3_leastTogether_50 : decode cX3_leastTogether 50 = .ok (.getfield 15, 3) := by decide +kernel
theorem dX3_leastTogether_53 : decode cX3_leastTogether 53 = .ok (.iload 7, 2) := by decide +kernel
theorem dX3_leastTogether_55 : decode cX3_leastTogether 55 = .ok (.laload, 1) := by decide +kernel
theorem dX3_leastTogether_56 : decode cX3_leastTogether 56 = .ok (.aload_n 0, 1) := by decide +kernel
theorem dX3_leastTogether_57 : decode cX3_leastTogether 57 = .ok (.getfield 18, 3) := by decide +kernel
theorem dX3_leastTogether_60 : decode cX3_leastTogether 60 = .ok (.iload_n 1, 1) := by decide +kernel
theorem dX3_leastTogether_61 : decode cX3_leastTogether 61 = .ok (.iload 7, 2) := by decide +kernel
theorem dX3_leastTogether_63 : decode cX3_leastTogether 63 = .ok (.isub, 1) := by decide +kernel
theorem dX3_leastTogether_64 : decode cX3_leastTogether 64 = .ok (.laload, 1) := by decide +kernel
theorem dX3_leastTogether_65 : decode cX3_leastTogether 65 = .ok (.ladd, 1) := by decide +kernel
theorem dX3_leastTogether_66 : decode cX3_leastTogether 66 = .ok (.invokestatic 80, 3) := by decide +kernel
theorem dX3_leastTogether_69 : decode cX3_leastTogether 69 = .ok (.lstore 4, 2) := by decide +kernel
theorem dX3_leastTogether_71 : decode cX3_leastTogether 71 = .ok (.iinc 7 1, 3) := by decide +kernel
theorem dX3_leastTogether_74 : decode cX3_leastTogether 74 = .ok (.goto (-34), 3) := by decide +kernel
theorem dX3_leastTogether_77 : decode cX3_leastTogether 77 = .ok (.iconst 1, 1) := by decide +kernel
theorem dX3_leastTogether_78 : decode cX3_leastTogether 78 = .ok (.istore 7, 2) := by decide +kernel
theorem dX3_leastTogether_80 : decode cX3_leastTogether 80 = .ok (.iload 7, 2) := by decide +kernel
theorem dX3_leastTogether_82 : decode cX3_leastTogether 82 = .ok (.iload_n 3, 1) := by decide +kernel
theorem dX3_leastTogether_83 : decode cX3_leastTogether 83 = .ok (.if_icmp .ge 39, 3) := by decide +kernel
theorem dX3_leastTogether_86 : decode cX3_leastTogether 86 = .ok (.iload 7, 2) := by decide +kernel
theorem dX3_leastTogether_88 : decode cX3_leastTogether 88 = .ok (.iload_n 1, 1) := by decide +kernel
theorem dX3_leastTogether_89 : decode cX3_leastTogether 89 = .ok (.if_icmp .gt 33, 3) := by decide +kernel
theorem dX3_leastTogether_92 : decode cX3_leastTogether 92 = .ok (.lload 4, 2) := by decide +kernel
theorem dX3_leastTogether_94 : decode cX3_leastTogether 94 = .ok (.aload_n 0, 1) := by decide +kernel
theorem dX3_leastTogether_95 : decode cX3_leastTogether 95 = .ok (.getfield 15, 3) := by decide +kernel
theorem dX3_leastTogether_98 : decode cX3_leastTogether 98 = .ok (.iload_n 1, 1) := by decide +kernel
theorem dX3_leastTogether_99 : decode cX3_leastTogether 99 = .ok (.iload 7, 2) := by decide +kernel
theorem dX3_leastTogether_101 : decode cX3_leastTogether 101 = .ok (.isub, 1) := by decide +kernel
theorem dX3_leastTogether_102 : decode cX3_leastTogether 102 = .ok (.laload, 1) := by decide +kernel
theorem dX3_leastTogether_103 : decode cX3_leastTogether 103 = .ok (.aload_n 0, 1) := by decide +kernel
theorem dX3_leastTogether_104 : decode cX3_leastTogether 104 = .ok (.getfield 18, 3) := by decide +kernel
theorem dX3_leastTogether_107 : decode cX3_leastTogether 107 = .ok (.iload 7, 2) := by decide +kernel
theorem dX3_leastTogether_109 : decode cX3_leastTogether 109 = .ok (.laload, 1) := by decide +kernel
theorem dX3_leastTogether_110 : decode cX3_leastTogether 110 = .ok (.ladd, 1) := by decide +kernel
theorem dX3_leastTogether_111 : decode cX3_leastTogether 111 = .ok (.invokestatic 80, 3) := by decide +kernel
theorem dX3_leastTogether_114 : decode cX3_leastTogether 114 = .ok (.lstore 4, 2) := by decide +kernel
theorem dX3_leastTogether_116 : decode cX3_leastTogether 116 = .ok (.iinc 7 1, 3) := by decide +kernel
theorem dX3_leastTogether_119 : decode cX3_leastTogether 119 = .ok (.goto (-39), 3) := by decide +kernel
theorem dX3_leastTogether_122 : decode cX3_leastTogether 122 = .ok (.lload 4, 2) := by decide +kernel
theorem dX3_leastTogether_124 : decode cX3_leastTogether 124 = .ok (.lreturn, 1) := by decide +kernel
theorem dX3_layOff_0 : decode cX3_layOff 0 = .ok (.iconst 0, 1) := by decide +kernel
theorem dX3_layOff_1 : decode cX3_layOff 1 = .ok (.istore_n 3, 1) := by decide +kernel
theorem dX3_layOff_2 : decode cX3_layOff 2 = .ok (.iload_n 3, 1) := by decide +kernel
theorem dX3_layOff_3 : decode cX3_layOff 3 = .ok (.iload_n 1, 1) := by decide +kernel
theorem dX3_layOff_4 : decode cX3_layOff 4 = .ok (.if_icmp .ge 76, 3) := by decide +kernel
theorem dX3_layOff_7 : decode cX3_layOff 7 = .ok (.iload_n 3, 1) := by decide +kernel
theorem dX3_layOff_8 : decode cX3_layOff 8 = .ok (.sipush 600, 3) := by decide +kernel
theorem dX3_layOff_11 : decode cX3_layOff 11 = .ok (.if_icmp .ge 69, 3) := by decide +kernel
theorem dX3_layOff_14 : decode cX3_layOff 14 = .ok (.lconst 0, 1) := by decide +kernel
theorem dX3_layOff_15 : decode cX3_layOff 15 = .ok (.lstore 4, 2) := by decide +kernel
theorem dX3_layOff_17 : decode cX3_layOff 17 = .ok (.iconst 0, 1) := by decide +kernel
theorem dX3_layOff_18 : decode cX3_layOff 18 = .ok (.istore 6, 2) := by decide +kernel
theorem dX3_layOff_20 : decode cX3_layOff 20 = .ok (.iload 6, 2) := by decide +kernel
theorem dX3_layOff_22 : decode cX3_layOff 22 = .ok (.iload_n 2, 1) := by decide +kernel
theorem dX3_layOff_23 : decode cX3_layOff 23 = .ok (.if_icmp .ge 43, 3) := by decide +kernel
theorem dX3_layOff_26 : decode cX3_layOff 26 = .ok (.iload_n 3, 1) := by decide +kernel
theorem dX3_layOff_27 : decode cX3_layOff 27 = .ok (.iload 6, 2) := by decide +kernel
theorem dX3_layOff_29 : decode cX3_layOff 29 = .ok (.iadd, 1) := by decide +kernel
theorem dX3_layOff_30 : decode cX3_layOff 30 = .ok (.sipush 600, 3) := by decide +kernel
theorem dX3_layOff_33 : decode cX3_layOff 33 = .ok (.if_icmp .ge 33, 3) := by decide +kernel
theorem dX3_layOff_36 : decode cX3_layOff 36 = .ok (.lload 4, 2) := by decide +kernel
theorem dX3_layOff_38 : decode cX3_layOff 38 = .ok (.aload_n 0, 1) := by decide +kernel
theorem dX3_layOff_39 : decode cX3_layOff 39 = .ok (.getfield 15, 3) := by decide +kernel
theorem dX3_layOff_42 : decode cX3_layOff 42 = .ok (.iload_n 3, 1) := by decide +kernel
theorem dX3_layOff_43 : decode cX3_layOff 43 = .ok (.iload 6, 2) := by decide +kernel
theorem dX3_layOff_45 : decode cX3_layOff 45 = .ok (.iadd, 1) := by decide +kernel
theorem dX3_layOff_46 : decode cX3_layOff 46 = .ok (.laload, 1) := by decide +kernel
theorem dX3_layOff_47 : decode cX3_layOff 47 = .ok (.aload_n 0, 1) := by decide +kernel
theorem dX3_layOff_48 : decode cX3_layOff 48 = .ok (.getfield 18, 3) := by decide +kernel
theorem dX3_layOff_51 : decode cX3_layOff 51 = .ok (.iload 6, 2) := by decide +kernel
theorem dX3_layOff_53 : decode cX3_layOff 53 = .ok (.laload, 1) := by decide +kernel
theorem dX3_layOff_54 : decode cX3_layOff 54 = .ok (.lsub, 1) := by decide +kernel
theorem dX3_layOff_55 : decode cX3_layOff 55 = .ok (.invokestatic 77, 3) := by decide +kernel
theorem dX3_layOff_58 : decode cX3_layOff 58 = .ok (.lstore 4, 2) := by decide +kernel
theorem dX3_layOff_60 : decode cX3_layOff 60 = .ok (.iinc 6 1, 3) := by decide +kernel
theorem dX3_layOff_63 : decode cX3_layOff 63 = .ok (.goto (-43), 3) := by decide +kernel
theorem dX3_layOff_66 : decode cX3_layOff 66 = .ok (.aload_n 0, 1) := by decide +kernel
theorem dX3_layOff_67 : decode cX3_layOff 67 = .ok (.getfield 11, 3) := by decide +kernel
theorem dX3_layOff_70 : decode cX3_layOff 70 = .ok (.iload_n 3, 1) := by decide +kernel
theorem dX3_layOff_71 : decode cX3_layOff 71 = .ok (.lload 4, 2) := by decide +kernel
theorem dX3_layOff_73 : decode cX3_layOff 73 = .ok (.lastore, 1) := by decide +kernel
theorem dX3_layOff_74 : decode cX3_layOff 74 = .ok (.iinc 3 1, 3) := by decide +kernel
theorem dX3_layOff_77 : decode cX3_layOff 77 = .ok (.goto (-75), 3) := by decide +kernel
theorem dX3_layOff_80 : decode cX3_layOff 80 = .ok (.return_, 1) := by decide +kernel
theorem dX3_comesRound_0 : decode cX3_comesRound 0 = .ok (.iconst 0, 1) := by decide +kernel
theorem dX3_comesRound_1 : decode cX3_comesRound 1 = .ok (.iload_n 1, 1) := by decide +kernel
theorem dX3_comesRound_2 : decode cX3_comesRound 2 = .ok (.invokestatic 44, 3) := by decide +kernel
theorem dX3_comesRound_5 : decode cX3_comesRound 5 = .ok (.istore 5, 2) := by decide +kernel
theorem dX3_comesRound_7 : decode cX3_comesRound 7 = .ok (.iload 5, 2) := by decide +kernel
theorem dX3_comesRound_9 : decode cX3_comesRound 9 = .ok (.iload_n 1, 1) := by decide +kernel
theorem dX3_comesRound_10 : decode cX3_comesRound 10 = .ok (.iload_n 2, 1) := by decide +kernel
theorem dX3_comesRound_11 : decode cX3_comesRound 11 = .ok (.iadd, 1) := by decide +kernel
theorem dX3_comesRound_12 : decode cX3_comesRound 12 = .ok (.if_icmp .ge 47, 3) := by decide +kernel
theorem dX3_comesRound_15 : decode cX3_comesRound 15 = .ok (.iload_n 2, 1) := by decide +kernel
theorem dX3_comesRound_16 : decode cX3_comesRound 16 = .ok (.ifCond .lt 35, 3) := by decide +kernel
theorem dX3_comesRound_19 : decode cX3_comesRound 19 = .ok (.iload 5, 2) := by decide +kernel
theorem dX3_comesRound_21 : decode cX3_comesRound 21 = .ok (.iload_n 2, 1) := by decide +kernel
theorem dX3_comesRound_22 : decode cX3_comesRound 22 = .ok (.iadd, 1) := by decide +kernel
theorem dX3_comesRound_23 : decode cX3_comesRound 23 = .ok (.sipush 600, 3) := by decide +kernel
theorem dX3_comesRound_26 : decode cX3_comesRound 26 = .ok (.if_icmp .ge 25, 3) := by decide +kernel
theorem dX3_comesRound_29 : decode cX3_comesRound 29 = .ok (.aload_n 0, 1) := by decide +kernel
theorem dX3_comesRound_30 : decode cX3_comesRound 30 = .ok (.getfield 11, 3) := by decide +kernel
theorem dX3_comesRound_33 : decode cX3_comesRound 33 = .ok (.iload 5, 2) := by decide +kernel
theorem dX3_comesRound_35 : decode cX3_comesRound 35 = .ok (.iload_n 2, 1) := by decide +kernel
theorem dX3_comesRound_36 : decode cX3_comesRound 36 = .ok (.iadd, 1) := by decide +kernel
theorem dX3_comesRound_37 : decode cX3_comesRound 37 = .ok (.laload, 1) := by decide +kernel
theorem dX3_comesRound_38 : decode cX3_comesRound 38 = .ok (.aload_n 0, 1) := by decide +kernel
theorem dX3_comesRound_39 : decode cX3_comesRound 39 = .ok (.getfield 11, 3) := by decide +kernel
theorem dX3_comesRound_42 : decode cX3_comesRound 42 = .ok (.iload 5, 2) := by decide +kernel
theorem dX3_comesRound_44 : decode cX3_comesRound 44 = .ok (.laload, 1) := by decide +kernel
theorem dX3_comesRound_45 : decode cX3_comesRound 45 = .ok (.lload_n 3, 1) := by decide +kernel
theorem dX3_comesRound_46 : decode cX3_comesRound 46 = .ok (.ladd, 1) := by decide +kernel
theorem dX3_comesRound_47 : decode cX3_comesRound 47 = .ok (.lcmp, 1) := by decide +kernel
theorem dX3_comesRound_48 : decode cX3_comesRound 48 = .ok (.ifCond .eq 5, 3) := by decide +kernel
theorem dX3_comesRound_51 : decode cX3_comesRound 51 = .ok (.iconst 0, 1) := by decide +kernel
theorem dX3_comesRound_52 : decode cX3_comesRound 52 = .ok (.ireturn, 1) := by decide +kernel
theorem dX3_comesRound_53 : decode cX3_comesRound 53 = .ok (.iinc 5 1, 3) := by decide +kernel
theorem dX3_comesRound_56 : decode cX3_comesRound 56 = .ok (.goto (-49), 3) := by decide +kernel
theorem dX3_comesRound_59 : decode cX3_comesRound 59 = .ok (.iconst 1, 1) := by decide +kernel
theorem dX3_comesRound_60 : decode cX3_comesRound 60 = .ok (.ireturn, 1) := by decide +kernel
theorem dX3_settled_0 : decode cX3_settled 0 = .ok (.iload_n 1, 1) := by decide +kernel
theorem dX3_settled_1 : decode cX3_settled 1 = .ok (.ifCond .lt 19, 3) := by decide +kernel
theorem dX3_settled_4 : decode cX3_settled 4 = .ok (.iload_n 2, 1) := by decide +kernel
theorem dX3_settled_5 : decode cX3_settled 5 = .ok (.iconst 1, 1) := by decide +kernel
theorem dX3_settled_6 : decode cX3_settled 6 = .ok (.if_icmp .lt 14, 3) := by decide +kernel
theorem dX3_settled_9 : decode cX3_settled 9 = .ok (.iload_n 1, 1) := by decide +kernel
theorem dX3_settled_10 : decode cX3_settled 10 = .ok (.iconst 2, 1) := by decide +kernel
theorem dX3_settled_11 : decode cX3_settled 11 = .ok (.iload_n 2, 1) := by decide +kernel
theorem dX3_settled_12 : decode cX3_settled 12 = .ok (.imul, 1) := by decide +kernel
theorem dX3_settled_13 : decode cX3_settled 13 = .ok (.iadd, 1) := by decide +kernel
theorem dX3_settled_14 : decode cX3_settled 14 = .ok (.sipush 600, 3) := by decide +kernel
theorem dX3_settled_17 : decode cX3_settled 17 = .ok (.if_icmp .le 5, 3) := by decide +kernel
theorem dX3_settled_20 : decode cX3_settled 20 = .ok (.aconst_null, 1) := by decide +kernel
theorem dX3_settled_21 : decode cX3_settled 21 = .ok (.areturn, 1) := by decide +kernel
theorem dX3_settled_22 : decode cX3_settled 22 = .ok (.aload_n 0, 1) := by decide +kernel
theorem dX3_settled_23 : decode cX3_settled 23 = .ok (.iload_n 1, 1) := by decide +kernel
theorem dX3_settled_24 : decode cX3_settled 24 = .ok (.iload_n 2, 1) := by decide +kernel
theorem dX3_settled_25 : decode cX3_settled 25 = .ok (.invokevirtual 86, 3) := by decide +kernel
theorem dX3_settled_28 : decode cX3_settled 28 = .ok (.istore_n 3, 1) := by decide +kernel
theorem dX3_settled_29 : decode cX3_settled 29 = .ok (.aload_n 0, 1) := by decide +kernel
theorem dX3_settled_30 : decode cX3_settled 30 = .ok (.getfield 11, 3) := by decide +kernel
theorem dX3_settled_33 : decode cX3_settled 33 = .ok (.iload_n 1, 1) := by decide +kernel
theorem dX3_settled_34 : decode cX3_settled 34 = .ok (.iload_n 3, 1) := by decide +kernel
theorem dX3_settled_35 : decode cX3_settled 35 = .ok (.iadd, 1) := by decide +kernel
theorem dX3_settled_36 : decode cX3_settled 36 = .ok (.laload, 1) := by decide +kernel
theorem dX3_settled_37 : decode cX3_settled 37 = .ok (.aload_n 0, 1) := by decide +kernel
theorem dX3_settled_38 : decode cX3_settled 38 = .ok (.getfield 11, 3) := by decide +kernel
theorem dX3_settled_41 : decode cX3_settled 41 = .ok (.iload_n 1, 1) := by decide +kernel
theorem dX3_settled_42 : decode cX3_settled 42 = .ok (.laload, 1) := by decide +kernel
theorem dX3_settled_43 : decode cX3_settled 43 = .ok (.lsub, 1) := by decide +kernel
theorem dX3_settled_44 : decode cX3_settled 44 = .ok (.lstore 4, 2) := by decide +kernel
theorem dX3_settled_46 : decode cX3_settled 46 = .ok (.iload_n 1, 1) := by decide +kernel
theorem dX3_settled_47 : decode cX3_settled 47 = .ok (.istore 6, 2) := by decide +kernel
theorem dX3_settled_49 : decode cX3_settled 49 = .ok (.iload_n 1, 1) := by decide +kernel
theorem dX3_settled_50 : decode cX3_settled 50 = .ok (.iconst 1, 1) := by decide +kernel
theorem dX3_settled_51 : decode cX3_settled 51 = .ok (.isub, 1) := by decide +kernel
theorem dX3_settled_52 : decode cX3_settled 52 = .ok (.istore 7, 2) := by decide +kernel
theorem dX3_settled_54 : decode cX3_settled 54 = .ok (.iload 7, 2) := by decide +kernel
theorem dX3_settled_56 : decode cX3_settled 56 = .ok (.ifCond .lt 36, 3) := by decide +kernel
theorem dX3_settled_59 : decode cX3_settled 59 = .ok (.aload_n 0, 1) := by decide +kernel
theorem dX3_settled_60 : decode cX3_settled 60 = .ok (.getfield 11, 3) := by decide +kernel
theorem dX3_settled_63 : decode cX3_settled 63 = .ok (.iload 7, 2) := by decide +kernel
theorem dX3_settled_65 : decode cX3_settled 65 = .ok (.iload_n 3, 1) := by decide +kernel
theorem dX3_settled_66 : decode cX3_settled 66 = .ok (.iadd, 1) := by decide +kernel
theorem dX3_settled_67 : decode cX3_settled 67 = .ok (.laload, 1) := by decide +kernel
theorem dX3_settled_68 : decode cX3_settled 68 = .ok (.aload_n 0, 1) := by decide +kernel
theorem dX3_settled_69 : decode cX3_settled 69 = .ok (.getfield 11, 3) := by decide +kernel
theorem dX3_settled_72 : decode cX3_settled 72 = .ok (.iload 7, 2) := by decide +kernel
theorem dX3_settled_74 : decode cX3_settled 74 = .ok (.laload, 1) := by decide +kernel
theorem dX3_settled_75 : decode cX3_settled 75 = .ok (.lload 4, 2) := by decide +kernel
theorem dX3_settled_77 : decode cX3_settled 77 = .ok (.ladd, 1) := by decide +kernel
theorem dX3_settled_78 : decode cX3_settled 78 = .ok (.lcmp, 1) := by decide +kernel
theorem dX3_settled_79 : decode cX3_settled 79 = .ok (.ifCond .ne 13, 3) := by decide +kernel
theorem dX3_settled_82 : decode cX3_settled 82 = .ok (.iload 7, 2) := by decide +kernel
theorem dX3_settled_84 : decode cX3_settled 84 = .ok (.istore 6, 2) := by decide +kernel
theorem dX3_settled_86 : decode cX3_settled 86 = .ok (.iinc 7 (-1), 3) := by decide +kernel
theorem dX3_settled_89 : decode cX3_settled 89 = .ok (.goto (-35), 3) := by decide +kernel
theorem dX3_settled_92 : decode cX3_settled 92 = .ok (.iload 6, 2) := by decide +kernel
theorem dX3_settled_94 : decode cX3_settled 94 = .ok (.iload_n 3, 1) := by decide +kernel
theorem dX3_settled_95 : decode cX3_settled 95 = .ok (.iadd, 1) := by decide +kernel
theorem dX3_settled_96 : decode cX3_settled 96 = .ok (.istore 7, 2) := by decide +kernel
theorem dX3_settled_98 : decode cX3_settled 98 = .ok (.iload 6, 2) := by decide +kernel
theorem dX3_settled_100 : decode cX3_settled 100 = .ok (.sipush 200, 3) := by decide +kernel
theorem dX3_settled_103 : decode cX3_settled 103 = .ok (.if_icmp .gt 34, 3) := by decide +kernel
theorem dX3_settled_106 : decode cX3_settled 106 = .ok (.iload_n 3, 1) := by decide +kernel
theorem dX3_settled_107 : decode cX3_settled 107 = .ok (.bipush 60, 2) := by decide +kernel
theorem dX3_settled_109 : decode cX3_settled 109 = .ok (.if_icmp .gt 28, 3) := by decide +kernel
theorem dX3_settled_112 : decode cX3_settled 112 = .ok (.lload 4, 2) := by decide +kernel
theorem dX3_settled_114 : decode cX3_settled 114 = .ok (.ldc2_w 89, 3) := by decide +kernel
theorem dX3_settled_117 : decode cX3_settled 117 = .ok (.lcmp, 1) := by decide +kernel
theorem dX3_settled_118 : decode cX3_settled 118 = .ok (.ifCond .gt 19, 3) := by decide +kernel
theorem dX3_settled_121 : decode cX3_settled 121 = .ok (.aload_n 0, 1) := by decide +kernel
theorem dX3_settled_122 : decode cX3_settled 122 = .ok (.getfield 11, 3) := by decide +kernel
theorem dX3_settled_125 : decode cX3_settled 125 = .ok (.iload 7, 2) := by decide +kernel
theorem dX3_settled_127 : decode cX3_settled 127 = .ok (.iconst 1, 1) := by decide +kernel
theorem dX3_settled_128 : decode cX3_settled 128 = .ok (.isub, 1) := by decide +kernel
theorem dX3_settled_129 : decode cX3_settled 129 = .ok (.laload, 1) := by decide +kernel
theorem dX3_settled_130 : decode cX3_settled 130 = .ok (.ldc2_w 91, 3) := by decide +kernel
theorem dX3_settled_133 : decode cX3_settled 133 = .ok (.lcmp, 1) := by decide +kernel
theorem dX3_settled_134 : decode cX3_settled 134 = .ok (.ifCond .le 5, 3) := by decide +kernel
theorem dX3_settled_137 : decode cX3_settled 137 = .ok (.aconst_null, 1) := by decide +kernel
theorem dX3_settled_138 : decode cX3_settled 138 = .ok (.areturn, 1) := by decide +kernel
theorem dX3_settled_139 : decode cX3_settled 139 = .ok (.iload 6, 2) := by decide +kernel
theorem dX3_settled_141 : decode cX3_settled 141 = .ok (.iload_n 3, 1) := by decide +kernel
theorem dX3_settled_142 : decode cX3_settled 142 = .ok (.lload 4, 2) := by decide +kernel
theorem dX3_settled_144 : decode cX3_settled 144 = .ok (.l2i, 1) := by decide +kernel
theorem dX3_settled_145 : decode cX3_settled 145 = .ok (.aload_n 0, 1) := by decide +kernel
theorem dX3_settled_146 : decode cX3_settled 146 = .ok (.getfield 11, 3) := by decide +kernel
theorem dX3_settled_149 : decode cX3_settled 149 = .ok (.iload 7, 2) := by decide +kernel
theorem dX3_settled_151 : decode cX3_settled 151 = .ok (.invokestatic 93, 3) := by decide +kernel
theorem dX3_settled_154 : decode cX3_settled 154 = .ok (.invokestatic 99, 3) := by decide +kernel
theorem dX3_settled_157 : decode cX3_settled 157 = .ok (.areturn, 1) := by decide +kernel
theorem dX3_leastStep_0 : decode cX3_leastStep 0 = .ok (.iconst 1, 1) := by decide +kernel
theorem dX3_leastStep_1 : decode cX3_leastStep 1 = .ok (.istore_n 3, 1) := by decide +kernel
theorem dX3_leastStep_2 : decode cX3_leastStep 2 = .ok (.iload_n 3, 1) := by decide +kernel
theorem dX3_leastStep_3 : decode cX3_leastStep 3 = .ok (.iload_n 2, 1) := by decide +kernel
theorem dX3_leastStep_4 : decode cX3_leastStep 4 = .ok (.if_icmp .ge 21, 3) := by decide +kernel
theorem dX3_leastStep_7 : decode cX3_leastStep 7 = .ok (.aload_n 0, 1) := by decide +kernel
theorem dX3_leastStep_8 : decode cX3_leastStep 8 = .ok (.iload_n 3, 1) := by decide +kernel
theorem dX3_leastStep_9 : decode cX3_leastStep 9 = .ok (.iload_n 1, 1) := by decide +kernel
theorem dX3_leastStep_10 : decode cX3_leastStep 10 = .ok (.iload_n 2, 1) := by decide +kernel
theorem dX3_leastStep_11 : decode cX3_leastStep 11 = .ok (.invokevirtual 103, 3) := by decide +kernel
theorem dX3_leastStep_14 : decode cX3_leastStep 14 = .ok (.ifCond .eq 5, 3) := by decide +kernel
theorem dX3_leastStep_17 : decode cX3_leastStep 17 = .ok (.iload_n 3, 1) := by decide +kernel
theorem dX3_leastStep_18 : decode cX3_leastStep 18 = .ok (.ireturn, 1) := by decide +kernel
theorem dX3_leastStep_19 : decode cX3_leastStep 19 = .ok (.iinc 3 1, 3) := by decide +kernel
theorem dX3_leastStep_22 : decode cX3_leastStep 22 = .ok (.goto (-20), 3) := by decide +kernel
theorem dX3_leastStep_25 : decode cX3_leastStep 25 = .ok (.iload_n 2, 1) := by decide +kernel
theorem dX3_leastStep_26 : decode cX3_leastStep 26 = .ok (.ireturn, 1) := by decide +kernel
theorem dX3_alsoComesRoundBy_0 : decode cX3_alsoComesRoundBy 0 = .ok (.iload_n 2, 1) := by decide +kernel
theorem dX3_alsoComesRoundBy_1 : decode cX3_alsoComesRoundBy 1 = .ok (.ifCond .lt 24, 3) := by decide +kernel
theorem dX3_alsoComesRoundBy_4 : decode cX3_alsoComesRoundBy 4 = .ok (.iload_n 1, 1) := by decide +kernel
theorem dX3_alsoComesRoundBy_5 : decode cX3_alsoComesRoundBy 5 = .ok (.iconst 1, 1) := by decide +kernel
theorem dX3_alsoComesRoundBy_6 : decode cX3_alsoComesRoundBy 6 = .ok (.if_icmp .lt 19, 3) := by decide +kernel
theorem dX3_alsoComesRoundBy_9 : decode cX3_alsoComesRoundBy 9 = .ok (.iload_n 3, 1) := by decide +kernel
theorem dX3_alsoComesRoundBy_10 : decode cX3_alsoComesRoundBy 10 = .ok (.iconst 1, 1) := by decide +kernel
theorem dX3_alsoComesRoundBy_11 : decode cX3_alsoComesRoundBy 11 = .ok (.if_icmp .lt 14, 3) := by decide +kernel
theorem dX3_alsoComesRoundBy_14 : decode cX3_alsoComesRoundBy 14 = .ok (.iload_n 2, 1) := by decide +kernel
theorem dX3_alsoComesRoundBy_15 : decode cX3_alsoComesRoundBy 15 = .ok (.iload_n 3, 1) := by decide +kernel
theorem dX3_alsoComesRoundBy_16 : decode cX3_alsoComesRoundBy 16 = .ok (.iadd, 1) := by decide +kernel
theorem dX3_alsoComesRoundBy_17 : decode cX3_alsoComesRoundBy 17 = .ok (.iload_n 1, 1) := by decide +kernel
theorem dX3_alsoComesRoundBy_18 : decode cX3_alsoComesRoundBy 18 = .ok (.iadd, 1) := by decide +kernel
theorem dX3_alsoComesRoundBy_19 : decode cX3_alsoComesRoundBy 19 = .ok (.sipush 600, 3) := by decide +kernel
theorem dX3_alsoComesRoundBy_22 : decode cX3_alsoComesRoundBy 22 = .ok (.if_icmp .le 5, 3) := by decide +kernel
theorem dX3_alsoComesRoundBy_25 : decode cX3_alsoComesRoundBy 25 = .ok (.iconst 0, 1) := by decide +kernel
theorem dX3_alsoComesRoundBy_26 : decode cX3_alsoComesRoundBy 26 = .ok (.ireturn, 1) := by decide +kernel
theorem dX3_alsoComesRoundBy_27 : decode cX3_alsoComesRoundBy 27 = .ok (.aload_n 0, 1) := by decide +kernel
theorem dX3_alsoComesRoundBy_28 : decode cX3_alsoComesRoundBy 28 = .ok (.getfield 11, 3) := by decide +kernel
theorem dX3_alsoComesRoundBy_31 : decode cX3_alsoComesRoundBy 31 = .ok (.iload_n 2, 1) := by decide +kernel
theorem dX3_alsoComesRoundBy_32 : decode cX3_alsoComesRoundBy 32 = .ok (.iload_n 1, 1) := by decide +kernel
theorem dX3_alsoComesRoundBy_33 : decode cX3_alsoComesRoundBy 33 = .ok (.iadd, 1) := by decide +kernel
theorem dX3_alsoComesRoundBy_34 : decode cX3_alsoComesRoundBy 34 = .ok (.laload, 1) := by decide +kernel
theorem dX3_alsoComesRoundBy_35 : decode cX3_alsoComesRoundBy 35 = .ok (.aload_n 0, 1) := by decide +kernel
theorem dX3_alsoComesRoundBy_36 : decode cX3_alsoComesRoundBy 36 = .ok (.getfield 11, 3) := by decide +kernel
theorem dX3_alsoComesRoundBy_39 : decode cX3_alsoComesRoundBy 39 = .ok (.iload_n 2, 1) := by decide +kernel
theorem dX3_alsoComesRoundBy_40 : decode cX3_alsoComesRoundBy 40 = .ok (.laload, 1) := by decide +kernel
theorem dX3_alsoComesRoundBy_41 : decode cX3_alsoComesRoundBy 41 = .ok (.lsub, 1) := by decide +kernel
theorem dX3_alsoComesRoundBy_42 : decode cX3_alsoComesRoundBy 42 = .ok (.lstore 4, 2) := by decide +kernel
theorem dX3_alsoComesRoundBy_44 : decode cX3_alsoComesRoundBy 44 = .ok (.iload_n 2, 1) := by decide +kernel
theorem dX3_alsoComesRoundBy_45 : decode cX3_alsoComesRoundBy 45 = .ok (.istore 6, 2) := by decide +kernel
theorem dX3_alsoComesRoundBy_47 : decode cX3_alsoComesRoundBy 47 = .ok (.iload 6, 2) := by decide +kernel
theorem dX3_alsoComesRoundBy_49 : decode cX3_alsoComesRoundBy 49 = .ok (.iload_n 2, 1) := by decide +kernel
theorem dX3_alsoComesRoundBy_50 : decode cX3_alsoComesRoundBy 50 = .ok (.iload_n 3, 1) := by decide +kernel
theorem dX3_alsoComesRoundBy_51 : decode cX3_alsoComesRoundBy 51 = .ok (.iadd, 1) := by decide +kernel
theorem dX3_alsoComesRoundBy_52 : decode cX3_alsoComesRoundBy 52 = .ok (.if_icmp .ge 34, 3) := by decide +kernel
theorem dX3_alsoComesRoundBy_55 : decode cX3_alsoComesRoundBy 55 = .ok (.aload_n 0, 1) := by decide +kernel
theorem dX3_alsoComesRoundBy_56 : decode cX3_alsoComesRoundBy 56 = .ok (.getfield 11, 3) := by decide +kernel
theorem dX3_alsoComesRoundBy_59 : decode cX3_alsoComesRoundBy 59 = .ok (.iload 6, 2) := by decide +kernel
theorem dX3_alsoComesRoundBy_61 : decode cX3_alsoComesRoundBy 61 = .ok (.iload_n 1, 1) := by decide +kernel
theorem dX3_alsoComesRoundBy_62 : decode cX3_alsoComesRoundBy 62 = .ok (.iadd, 1) := by decide +kernel
theorem dX3_alsoComesRoundBy_63 : decode cX3_alsoComesRoundBy 63 = .ok (.laload, 1) := by decide +kernel
theorem dX3_alsoComesRoundBy_64 : decode cX3_alsoComesRoundBy 64 = .ok (.aload_n 0, 1) := by decide +kernel
theorem dX3_alsoComesRoundBy_65 : decode cX3_alsoComesRoundBy 65 = .ok (.getfield 11, 3) := by decide +kernel
theorem dX3_alsoComesRoundBy_68 : decode cX3_alsoComesRoundBy 68 = .ok (.iload 6, 2) := by decide +kernel
theorem dX3_alsoComesRoundBy_70 : decode cX3_alsoComesRoundBy 70 = .ok (.laload, 1) := by decide +kernel
theorem dX3_alsoComesRoundBy_71 : decode cX3_alsoComesRoundBy 71 = .ok (.lload 4, 2) := by decide +kernel
theorem dX3_alsoComesRoundBy_73 : decode cX3_alsoComesRoundBy 73 = .ok (.ladd, 1) := by decide +kernel
theorem dX3_alsoComesRoundBy_74 : decode cX3_alsoComesRoundBy 74 = .ok (.lcmp, 1) := by decide +kernel
theorem dX3_alsoComesRoundBy_75 : decode cX3_alsoComesRoundBy 75 = .ok (.ifCond .eq 5, 3) := by decide +kernel
theorem dX3_alsoComesRoundBy_78 : decode cX3_alsoComesRoundBy 78 = .ok (.iconst 0, 1) := by decide +kernel
theorem dX3_alsoComesRoundBy_79 : decode cX3_alsoComesRoundBy 79 = .ok (.ireturn, 1) := by decide +kernel
theorem dX3_alsoComesRoundBy_80 : decode cX3_alsoComesRoundBy 80 = .ok (.iinc 6 1, 3) := by decide +kernel
theorem dX3_alsoComesRoundBy_83 : decode cX3_alsoComesRoundBy 83 = .ok (.goto (-36), 3) := by decide +kernel
theorem dX3_alsoComesRoundBy_86 : decode cX3_alsoComesRoundBy 86 = .ok (.iconst 1, 1) := by decide +kernel
theorem dX3_alsoComesRoundBy_87 : decode cX3_alsoComesRoundBy 87 = .ok (.ireturn, 1) := by decide +kernel
theorem dX3_ofItsKind_0 : decode cX3_ofItsKind 0 = .ok (.aload_n 3, 1) := by decide +kernel
theorem dX3_ofItsKind_1 : decode cX3_ofItsKind 1 = .ok (.arraylength, 1) := by decide +kernel
theorem dX3_ofItsKind_2 : decode cX3_ofItsKind 2 = .ok (.ifCond .le 15, 3) := by decide +kernel
theorem dX3_ofItsKind_5 : decode cX3_ofItsKind 5 = .ok (.aload_n 3, 1) := by decide +kernel
theorem dX3_ofItsKind_6 : decode cX3_ofItsKind 6 = .ok (.iconst 0, 1) := by decide +kernel
theorem dX3_ofItsKind_7 : decode cX3_ofItsKind 7 = .ok (.laload, 1) := by decide +kernel
theorem dX3_ofItsKind_8 : decode cX3_ofItsKind 8 = .ok (.lconst 0, 1) := by decide +kernel
theorem dX3_ofItsKind_9 : decode cX3_ofItsKind 9 = .ok (.lcmp, 1) := by decide +kernel
theorem dX3_ofItsKind_10 : decode cX3_ofItsKind 10 = .ok (.ifCond .ne 7, 3) := by decide +kernel
theorem dX3_ofItsKind_13 : decode cX3_ofItsKind 13 = .ok (.iconst 1, 1) := by decide +kernel
theorem dX3_ofItsKind_14 : decode cX3_ofItsKind 14 = .ok (.goto 4, 3) := by decide +kernel
theorem dX3_ofItsKind_17 : decode cX3_ofItsKind 17 = .ok (.iconst 0, 1) := by decide +kernel
theorem dX3_ofItsKind_18 : decode cX3_ofItsKind 18 = .ok (.istore 4, 2) := by decide +kernel
theorem dX3_ofItsKind_20 : decode cX3_ofItsKind 20 = .ok (.aload_n 3, 1) := by decide +kernel
theorem dX3_ofItsKind_21 : decode cX3_ofItsKind 21 = .ok (.arraylength, 1) := by decide +kernel
theorem dX3_ofItsKind_22 : decode cX3_ofItsKind 22 = .ok (.ifCond .le 18, 3) := by decide +kernel
theorem dX3_ofItsKind_25 : decode cX3_ofItsKind 25 = .ok (.aload_n 3, 1) := by decide +kernel
theorem dX3_ofItsKind_26 : decode cX3_ofItsKind 26 = .ok (.aload_n 3, 1) := by decide +kernel
theorem dX3_ofItsKind_27 : decode cX3_ofItsKind 27 = .ok (.arraylength, 1) := by decide +kernel
theorem dX3_ofItsKind_28 : decode cX3_ofItsKind 28 = .ok (.iconst 1, 1) := by decide +kernel
theorem dX3_ofItsKind_29 : decode cX3_ofItsKind 29 = .ok (.isub, 1) := by decide +kernel
theorem dX3_ofItsKind_30 : decode cX3_ofItsKind 30 = .ok (.laload, 1) := by decide +kernel
theorem dX3_ofItsKind_31 : decode cX3_ofItsKind 31 = .ok (.lconst 0, 1) := by decide +kernel
theorem dX3_ofItsKind_32 : decode cX3_ofItsKind 32 = .ok (.lcmp, 1) := by decide +kernel
theorem dX3_ofItsKind_33 : decode cX3_ofItsKind 33 = .ok (.ifCond .ne 7, 3) := by decide +kernel
theorem dX3_ofItsKind_36 : decode cX3_ofItsKind 36 = .ok (.iconst 1, 1) := by decide +kernel
theorem dX3_ofItsKind_37 : decode cX3_ofItsKind 37 = .ok (.goto 4, 3) := by decide +kernel
theorem dX3_ofItsKind_40 : decode cX3_ofItsKind 40 = .ok (.iconst 0, 1) := by decide +kernel
theorem dX3_ofItsKind_41 : decode cX3_ofItsKind 41 = .ok (.istore 5, 2) := by decide +kernel
theorem dX3_ofItsKind_43 : decode cX3_ofItsKind 43 = .ok (.iload_n 1, 1) := by decide +kernel
theorem dX3_ofItsKind_44 : decode cX3_ofItsKind 44 = .ok (.iconst 1, 1) := by decide +kernel
theorem dX3_ofItsKind_45 : decode cX3_ofItsKind 45 = .ok (.if_icmp .ne 46, 3) := by decide +kernel
theorem dX3_ofItsKind_48 : decode cX3_ofItsKind 48 = .ok (.iload_n 0, 1) := by decide +kernel
theorem dX3_ofItsKind_49 : decode cX3_ofItsKind 49 = .ok (.iconst 1, 1) := by decide +kernel
theorem dX3_ofItsKind_50 : decode cX3_ofItsKind 50 = .ok (.if_icmp .ne 41, 3) := by decide +kernel
theorem dX3_ofItsKind_53 : decode cX3_ofItsKind 53 = .ok (.iload 4, 2) := by decide +kernel
theorem dX3_ofItsKind_55 : decode cX3_ofItsKind 55 = .ok (.ifCond .eq 36, 3) := by decide +kernel
theorem dX3_ofItsKind_58 : decode cX3_ofItsKind 58 = .ok (.aload_n 3, 1) := by decide +kernel
theorem dX3_ofItsKind_59 : decode cX3_ofItsKind 59 = .ok (.arraylength, 1) := by decide +kernel
theorem dX3_ofItsKind_60 : decode cX3_ofItsKind 60 = .ok (.iconst 2, 1) := by decide +kernel
theorem dX3_ofItsKind_61 : decode cX3_ofItsKind 61 = .ok (.if_icmp .ne 30, 3) := by decide +kernel
theorem dX3_ofItsKind_64 : decode cX3_ofItsKind 64 = .ok (.aload_n 3, 1) := by decide +kernel
theorem dX3_ofItsKind_65 : decode cX3_ofItsKind 65 = .ok (.iconst 1, 1) := by decide +kernel
theorem dX3_ofItsKind_66 : decode cX3_ofItsKind 66 = .ok (.laload, 1) := by decide +kernel
theorem dX3_ofItsKind_67 : decode cX3_ofItsKind 67 = .ok (.iload_n 2, 1) := by decide +kernel
theorem dX3_ofItsKind_68 : decode cX3_ofItsKind 68 = .ok (.i2l, 1) := by decide +kernel
theorem dX3_ofItsKind_69 : decode cX3_ofItsKind 69 = .ok (.lcmp, 1) := by decide +kernel
theorem dX3_ofItsKind_70 : decode cX3_ofItsKind 70 = .ok (.ifCond .le 21, 3) := by decide +kernel
theorem dX3_ofItsKind_73 : decode cX3_ofItsKind 73 = .ok (.new 107, 3) := by decide +kernel
theorem dX3_ofItsKind_76 : decode cX3_ofItsKind 76 = .ok (.dup, 1) := by decide +kernel
theorem dX3_ofItsKind_77 : decode cX3_ofItsKind 77 = .ok (.iload_n 0, 1) := by decide +kernel
theorem dX3_ofItsKind_78 : decode cX3_ofItsKind 78 = .ok (.iload_n 1, 1) := by decide +kernel
theorem dX3_ofItsKind_79 : decode cX3_ofItsKind 79 = .ok (.iload_n 2, 1) := by decide +kernel
theorem dX3_ofItsKind_80 : decode cX3_ofItsKind 80 = .ok (.aload_n 3, 1) := by decide +kernel
theorem dX3_ofItsKind_81 : decode cX3_ofItsKind 81 = .ok (.aload_n 3, 1) := by decide +kernel
theorem dX3_ofItsKind_82 : decode cX3_ofItsKind 82 = .ok (.iconst 1, 1) := by decide +kernel
theorem dX3_ofItsKind_83 : decode cX3_ofItsKind 83 = .ok (.laload, 1) := by decide +kernel
theorem dX3_ofItsKind_84 : decode cX3_ofItsKind 84 = .ok (.iload_n 2, 1) := by decide +kernel
theorem dX3_ofItsKind_85 : decode cX3_ofItsKind 85 = .ok (.i2l, 1) := by decide +kernel
theorem dX3_ofItsKind_86 : decode cX3_ofItsKind 86 = .ok (.lsub, 1) := by decide +kernel
theorem dX3_ofItsKind_87 : decode cX3_ofItsKind 87 = .ok (.invokespecial 109, 3) := by decide +kernel
theorem dX3_ofItsKind_90 : decode cX3_ofItsKind 90 = .ok (.areturn, 1) := by decide +kernel
theorem dX3_ofItsKind_91 : decode cX3_ofItsKind 91 = .ok (.iload_n 1, 1) := by decide +kernel
theorem dX3_ofItsKind_92 : decode cX3_ofItsKind 92 = .ok (.iconst 1, 1) := by decide +kernel
theorem dX3_ofItsKind_93 : decode cX3_ofItsKind 93 = .ok (.if_icmp .ne 24, 3) := by decide +kernel
theorem dX3_ofItsKind_96 : decode cX3_ofItsKind 96 = .ok (.iload_n 0, 1) := by decide +kernel
theorem dX3_ofItsKind_97 : decode cX3_ofItsKind 97 = .ok (.ifCond .ne 20, 3) := by decide +kernel
theorem dX3_ofItsKind_100 : decode cX3_ofItsKind 100 = .ok (.iload 5, 2) := by decide +kernel
theorem dX3_ofItsKind_102 : decode cX3_ofItsKind 102 = .ok (.ifCond .eq 15, 3) := by decide +kernel
theorem dX3_ofItsKind_105 : decode cX3_ofItsKind 105 = .ok (.new 112, 3) := by decide +kernel
theorem dX3_ofItsKind_108 : decode cX3_ofItsKind 108 = .ok (.dup, 1) := by decide +kernel
theorem dX3_ofItsKind_109 : decode cX3_ofItsKind 109 = .ok (.iload_n 0, 1) := by decide +kernel
theorem dX3_ofItsKind_110 : decode cX3_ofItsKind 110 = .ok (.iload_n 1, 1) := by decide +kernel
theorem dX3_ofItsKind_111 : decode cX3_ofItsKind 111 = .ok (.iload_n 2, 1) := by decide +kernel
theorem dX3_ofItsKind_112 : decode cX3_ofItsKind 112 = .ok (.aload_n 3, 1) := by decide +kernel
theorem dX3_ofItsKind_113 : decode cX3_ofItsKind 113 = .ok (.invokespecial 114, 3) := by decide +kernel
theorem dX3_ofItsKind_116 : decode cX3_ofItsKind 116 = .ok (.areturn, 1) := by decide +kernel
theorem dX3_ofItsKind_117 : decode cX3_ofItsKind 117 = .ok (.iload_n 1, 1) := by decide +kernel
theorem dX3_ofItsKind_118 : decode cX3_ofItsKind 118 = .ok (.iconst 1, 1) := by decide +kernel
theorem dX3_ofItsKind_119 : decode cX3_ofItsKind 119 = .ok (.if_icmp .ne 28, 3) := by decide +kernel
theorem dX3_ofItsKind_122 : decode cX3_ofItsKind 122 = .ok (.iload_n 0, 1) := by decide +kernel
theorem dX3_ofItsKind_123 : decode cX3_ofItsKind 123 = .ok (.ifCond .le 24, 3) := by decide +kernel
theorem dX3_ofItsKind_126 : decode cX3_ofItsKind 126 = .ok (.iload 5, 2) := by decide +kernel
theorem dX3_ofItsKind_128 : decode cX3_ofItsKind 128 = .ok (.ifCond .eq 19, 3) := by decide +kernel
theorem dX3_ofItsKind_131 : decode cX3_ofItsKind 131 = .ok (.iload_n 2, 1) := by decide +kernel
theorem dX3_ofItsKind_132 : decode cX3_ofItsKind 132 = .ok (.ifCond .le 15, 3) := by decide +kernel
theorem dX3_ofItsKind_135 : decode cX3_ofItsKind 135 = .ok (.new 117, 3) := by decide +kernel
theorem dX3_ofItsKind_138 : decode cX3_ofItsKind 138 = .ok (.dup, 1) := by decide +kernel
theorem dX3_ofItsKind_139 : decode cX3_ofItsKind 139 = .ok (.iload_n 0, 1) := by decide +kernel
theorem dX3_ofItsKind_140 : decode cX3_ofItsKind 140 = .ok (.iload_n 1, 1) := by decide +kernel
theorem dX3_ofItsKind_141 : decode cX3_ofItsKind 141 = .ok (.iload_n 2, 1) := by decide +kernel
theorem dX3_ofItsKind_142 : decode cX3_ofItsKind 142 = .ok (.aload_n 3, 1) := by decide +kernel
theorem dX3_ofItsKind_143 : decode cX3_ofItsKind 143 = .ok (.invokespecial 119, 3) := by decide +kernel
theorem dX3_ofItsKind_146 : decode cX3_ofItsKind 146 = .ok (.areturn, 1) := by decide +kernel
theorem dX3_ofItsKind_147 : decode cX3_ofItsKind 147 = .ok (.iload_n 1, 1) := by decide +kernel
theorem dX3_ofItsKind_148 : decode cX3_ofItsKind 148 = .ok (.iconst 1, 1) := by decide +kernel
theorem dX3_ofItsKind_149 : decode cX3_ofItsKind 149 = .ok (.if_icmp .le 28, 3) := by decide +kernel
theorem dX3_ofItsKind_152 : decode cX3_ofItsKind 152 = .ok (.iload_n 0, 1) := by decide +kernel
theorem dX3_ofItsKind_153 : decode cX3_ofItsKind 153 = .ok (.ifCond .ne 24, 3) := by decide +kernel
theorem dX3_ofItsKind_156 : decode cX3_ofItsKind 156 = .ok (.iload 5, 2) := by decide +kernel
theorem dX3_ofItsKind_158 : decode cX3_ofItsKind 158 = .ok (.ifCond .eq 19, 3) := by decide +kernel
theorem dX3_ofItsKind_161 : decode cX3_ofItsKind 161 = .ok (.iload_n 2, 1) := by decide +kernel
theorem dX3_ofItsKind_162 : decode cX3_ofItsKind 162 = .ok (.ifCond .le 15, 3) := by decide +kernel
theorem dX3_ofItsKind_165 : decode cX3_ofItsKind 165 = .ok (.new 120, 3) := by decide +kernel
theorem dX3_ofItsKind_168 : decode cX3_ofItsKind 168 = .ok (.dup, 1) := by decide +kernel
theorem dX3_ofItsKind_169 : decode cX3_ofItsKind 169 = .ok (.iload_n 0, 1) := by decide +kernel
theorem dX3_ofItsKind_170 : decode cX3_ofItsKind 170 = .ok (.iload_n 1, 1) := by decide +kernel
theorem dX3_ofItsKind_171 : decode cX3_ofItsKind 171 = .ok (.iload_n 2, 1) := by decide +kernel
theorem dX3_ofItsKind_172 : decode cX3_ofItsKind 172 = .ok (.aload_n 3, 1) := by decide +kernel
theorem dX3_ofItsKind_173 : decode cX3_ofItsKind 173 = .ok (.invokespecial 122, 3) := by decide +kernel
theorem dX3_ofItsKind_176 : decode cX3_ofItsKind 176 = .ok (.areturn, 1) := by decide +kernel
theorem dX3_ofItsKind_177 : decode cX3_ofItsKind 177 = .ok (.new 26, 3) := by decide +kernel
theorem dX3_ofItsKind_180 : decode cX3_ofItsKind 180 = .ok (.dup, 1) := by decide +kernel
theorem dX3_ofItsKind_181 : decode cX3_ofItsKind 181 = .ok (.iload_n 0, 1) := by decide +kernel
theorem dX3_ofItsKind_182 : decode cX3_ofItsKind 182 = .ok (.iload_n 1, 1) := by decide +kernel
theorem dX3_ofItsKind_183 : decode cX3_ofItsKind 183 = .ok (.iload_n 2, 1) := by decide +kernel
theorem dX3_ofItsKind_184 : decode cX3_ofItsKind 184 = .ok (.aload_n 3, 1) := by decide +kernel
theorem dX3_ofItsKind_185 : decode cX3_ofItsKind 185 = .ok (.invokespecial 123, 3) := by decide +kernel
theorem dX3_ofItsKind_188 : decode cX3_ofItsKind 188 = .ok (.areturn, 1) := by decide +kernel
theorem dX4_commonStep_0 : decode cX4_commonStep 0 = .ok (.aload_n 0, 1) := by decide +kernel
theorem dX4_commonStep_1 : decode cX4_commonStep 1 = .ok (.getfield 9, 3) := by decide +kernel
theorem dX4_commonStep_4 : decode cX4_commonStep 4 = .ok (.iconst 1, 1) := by decide +kernel
theorem dX4_commonStep_5 : decode cX4_commonStep 5 = .ok (.if_icmp .lt 11, 3) := by decide +kernel
theorem dX4_commonStep_8 : decode cX4_commonStep 8 = .ok (.aload_n 1, 1) := by decide +kernel
theorem dX4_commonStep_9 : decode cX4_commonStep 9 = .ok (.getfield 9, 3) := by decide +kernel
theorem dX4_commonStep_12 : decode cX4_commonStep 12 = .ok (.iconst 1, 1) := by decide +kernel
theorem dX4_commonStep_13 : decode cX4_commonStep 13 = .ok (.if_icmp .ge 5, 3) := by decide +kernel
theorem dX4_commonStep_16 : decode cX4_commonStep 16 = .ok (.iconst (-1), 1) := by decide +kernel
theorem dX4_commonStep_17 : decode cX4_commonStep 17 = .ok (.ireturn, 1) := by decide +kernel
theorem dX4_commonStep_18 : decode cX4_commonStep 18 = .ok (.aload_n 0, 1) := by decide +kernel
theorem dX4_commonStep_19 : decode cX4_commonStep 19 = .ok (.getfield 9, 3) := by decide +kernel
theorem dX4_commonStep_22 : decode cX4_commonStep 22 = .ok (.istore_n 2, 1) := by decide +kernel
theorem dX4_commonStep_23 : decode cX4_commonStep 23 = .ok (.iload_n 2, 1) := by decide +kernel
theorem dX4_commonStep_24 : decode cX4_commonStep 24 = .ok (.bipush 60, 2) := by decide +kernel
theorem dX4_commonStep_26 : decode cX4_commonStep 26 = .ok (.if_icmp .gt 24, 3) := by decide +kernel
theorem dX4_commonStep_29 : decode cX4_commonStep 29 = .ok (.iload_n 2, 1) := by decide +kernel
theorem dX4_commonStep_30 : decode cX4_commonStep 30 = .ok (.aload_n 1, 1) := by decide +kernel
theorem dX4_commonStep_31 : decode cX4_commonStep 31 = .ok (.getfield 9, 3) := by decide +kernel
theorem dX4_commonStep_34 : decode cX4_commonStep 34 = .ok (.irem, 1) := by decide +kernel
theorem dX4_commonStep_35 : decode cX4_commonStep 35 = .ok (.ifCond .ne 5, 3) := by decide +kernel
theorem dX4_commonStep_38 : decode cX4_commonStep 38 = .ok (.iload_n 2, 1) := by decide +kernel
theorem dX4_commonStep_39 : decode cX4_commonStep 39 = .ok (.ireturn, 1) := by decide +kernel
theorem dX4_commonStep_40 : decode cX4_commonStep 40 = .ok (.iload_n 2, 1) := by decide +kernel
theorem dX4_commonStep_41 : decode cX4_commonStep 41 = .ok (.aload_n 0, 1) := by decide +kernel
theorem dX4_commonStep_42 : decode cX4_commonStep 42 = .ok (.getfield 9, 3) := by decide +kernel
theorem dX4_commonStep_45 : decode cX4_commonStep 45 = .ok (.iadd, 1) := by decide +kernel
theorem dX4_commonStep_46 : decode cX4_commonStep 46 = .ok (.istore_n 2, 1) := by decide +kernel
theorem dX4_commonStep_47 : decode cX4_commonStep 47 = .ok (.goto (-24), 3) := by decide +kernel
theorem dX4_commonStep_50 : decode cX4_commonStep 50 = .ok (.iconst (-1), 1) := by decide +kernel
theorem dX4_commonStep_51 : decode cX4_commonStep 51 = .ok (.ireturn, 1) := by decide +kernel
theorem dX4_outruns_0 : decode cX4_outruns 0 = .ok (.aload_n 0, 1) := by decide +kernel
theorem dX4_outruns_1 : decode cX4_outruns 1 = .ok (.iload_n 2, 1) := by decide +kernel
theorem dX4_outruns_2 : decode cX4_outruns 2 = .ok (.invokevirtual 15, 3) := by decide +kernel
theorem dX4_outruns_5 : decode cX4_outruns 5 = .ok (.aload_n 1, 1) := by decide +kernel
theorem dX4_outruns_6 : decode cX4_outruns 6 = .ok (.iload_n 2, 1) := by decide +kernel
theorem dX4_outruns_7 : decode cX4_outruns 7 = .ok (.invokevirtual 15, 3) := by decide +kernel
theorem dX4_outruns_10 : decode cX4_outruns 10 = .ok (.lcmp, 1) := by decide +kernel
theorem dX4_outruns_11 : decode cX4_outruns 11 = .ok (.ifCond .le 7, 3) := by decide +kernel
theorem dX4_outruns_14 : decode cX4_outruns 14 = .ok (.iconst 1, 1) := by decide +kernel
theorem dX4_outruns_15 : decode cX4_outruns 15 = .ok (.goto 4, 3) := by decide +kernel
theorem dX4_outruns_18 : decode cX4_outruns 18 = .ok (.iconst 0, 1) := by decide +kernel
theorem dX4_outruns_19 : decode cX4_outruns 19 = .ok (.ireturn, 1) := by decide +kernel
theorem dX4_settledSpan_0 : decode cX4_settledSpan 0 = .ok (.aload_n 0, 1) := by decide +kernel
theorem dX4_settledSpan_1 : decode cX4_settledSpan 1 = .ok (.getfield 19, 3) := by decide +kernel
theorem dX4_settledSpan_4 : decode cX4_settledSpan 4 = .ok (.aload_n 1, 1) := by decide +kernel
theorem dX4_settledSpan_5 : decode cX4_settledSpan 5 = .ok (.getfield 19, 3) := by decide +kernel
theorem dX4_settledSpan_8 : decode cX4_settledSpan 8 = .ok (.invokestatic 22, 3) := by decide +kernel
theorem dX4_settledSpan_11 : decode cX4_settledSpan 11 = .ok (.iload_n 2, 1) := by decide +kernel
theorem dX4_settledSpan_12 : decode cX4_settledSpan 12 = .ok (.iadd, 1) := by decide +kernel
theorem dX4_settledSpan_13 : decode cX4_settledSpan 13 = .ok (.ireturn, 1) := by decide +kernel
theorem dX4_firstUnlike_0 : decode cX4_firstUnlike 0 = .ok (.aload_n 0, 1) := by decide +kernel
theorem dX4_firstUnlike_1 : decode cX4_firstUnlike 1 = .ok (.aload_n 1, 1) := by decide +kernel
theorem dX4_firstUnlike_2 : decode cX4_firstUnlike 2 = .ok (.iload_n 2, 1) := by decide +kernel
theorem dX4_firstUnlike_3 : decode cX4_firstUnlike 3 = .ok (.invokestatic 28, 3) := by decide +kernel
theorem dX4_firstUnlike_6 : decode cX4_firstUnlike 6 = .ok (.istore_n 3, 1) := by decide +kernel
theorem dX4_firstUnlike_7 : decode cX4_firstUnlike 7 = .ok (.iconst 0, 1) := by decide +kernel
theorem dX4_firstUnlike_8 : decode cX4_firstUnlike 8 = .ok (.istore 4, 2) := by decide +kernel
theorem dX4_firstUnlike_10 : decode cX4_firstUnlike 10 = .ok (.iload 4, 2) := by decide +kernel
theorem dX4_firstUnlike_12 : decode cX4_firstUnlike 12 = .ok (.iload_n 3, 1) := by decide +kernel
theorem dX4_firstUnlike_13 : decode cX4_firstUnlike 13 = .ok (.if_icmp .gt 28, 3) := by decide +kernel
theorem dX4_firstUnlike_16 : decode cX4_firstUnlike 16 = .ok (.aload_n 0, 1) := by decide +kernel
theorem dX4_firstUnlike_17 : decode cX4_firstUnlike 17 = .ok (.iload 4, 2) := by decide +kernel
theorem dX4_firstUnlike_19 : decode cX4_firstUnlike 19 = .ok (.invokevirtual 34, 3) := by decide +kernel
theorem dX4_firstUnlike_22 : decode cX4_firstUnlike 22 = .ok (.aload_n 1, 1) := by decide +kernel
theorem dX4_firstUnlike_23 : decode cX4_firstUnlike 23 = .ok (.iload 4, 2) := by decide +kernel
theorem dX4_firstUnlike_25 : decode cX4_firstUnlike 25 = .ok (.invokevirtual 34, 3) := by decide +kernel
theorem dX4_firstUnlike_28 : decode cX4_firstUnlike 28 = .ok (.lcmp, 1) := by decide +kernel
theorem dX4_firstUnlike_29 : decode cX4_firstUnlike 29 = .ok (.ifCond .eq 6, 3) := by decide +kernel
theorem dX4_firstUnlike_32 : decode cX4_firstUnlike 32 = .ok (.iload 4, 2) := by decide +kernel
theorem dX4_firstUnlike_34 : decode cX4_firstUnlike 34 = .ok (.ireturn, 1) := by decide +kernel
theorem dX4_firstUnlike_35 : decode cX4_firstUnlike 35 = .ok (.iinc 4 1, 3) := by decide +kernel
theorem dX4_firstUnlike_38 : decode cX4_firstUnlike 38 = .ok (.goto (-28), 3) := by decide +kernel
theorem dX4_firstUnlike_41 : decode cX4_firstUnlike 41 = .ok (.iconst (-1), 1) := by decide +kernel
theorem dX4_firstUnlike_42 : decode cX4_firstUnlike 42 = .ok (.ireturn, 1) := by decide +kernel
theorem dX4_greatestLead_0 : decode cX4_greatestLead 0 = .ok (.aload_n 0, 1) := by decide +kernel
theorem dX4_greatestLead_1 : decode cX4_greatestLead 1 = .ok (.aload_n 1, 1) := by decide +kernel
theorem dX4_greatestLead_2 : decode cX4_greatestLead 2 = .ok (.iload_n 2, 1) := by decide +kernel
theorem dX4_greatestLead_3 : decode cX4_greatestLead 3 = .ok (.invokestatic 28, 3) := by decide +kernel
theorem dX4_greatestLead_6 : decode cX4_greatestLead 6 = .ok (.istore_n 3, 1) := by decide +kernel
theorem dX4_greatestLead_7 : decode cX4_greatestLead 7 = .ok (.lconst 0, 1) := by decide +kernel
theorem dX4_greatestLead_8 : decode cX4_greatestLead 8 = .ok (.lstore 4, 2) := by decide +kernel
theorem dX4_greatestLead_10 : decode cX4_greatestLead 10 = .ok (.iconst 0, 1) := by decide +kernel
theorem dX4_greatestLead_11 : decode cX4_greatestLead 11 = .ok (.istore 6, 2) := by decide +kernel
theorem dX4_greatestLead_13 : decode cX4_greatestLead 13 = .ok (.iload 6, 2) := by decide +kernel
theorem dX4_greatestLead_15 : decode cX4_greatestLead 15 = .ok (.iload_n 3, 1) := by decide +kernel
theorem dX4_greatestLead_16 : decode cX4_greatestLead 16 = .ok (.if_icmp .ge 29, 3) := by decide +kernel
theorem dX4_greatestLead_19 : decode cX4_greatestLead 19 = .ok (.lload 4, 2) := by decide +kernel
theorem dX4_greatestLead_21 : decode cX4_greatestLead 21 = .ok (.aload_n 0, 1) := by decide +kernel
theorem dX4_greatestLead_22 : decode cX4_greatestLead 22 = .ok (.iload 6, 2) := by decide +kernel
theorem dX4_greatestLead_24 : decode cX4_greatestLead 24 = .ok (.invokevirtual 34, 3) := by decide +kernel
theorem dX4_greatestLead_27 : decode cX4_greatestLead 27 = .ok (.aload_n 1, 1) := by decide +kernel
theorem dX4_greatestLead_28 : decode cX4_greatestLead 28 = .ok (.iload 6, 2) := by decide +kernel
theorem dX4_greatestLead_30 : decode cX4_greatestLead 30 = .ok (.invokevirtual 34, 3) := by decide +kernel
theorem dX4_greatestLead_33 : decode cX4_greatestLead 33 = .ok (.lsub, 1) := by decide +kernel
theorem dX4_greatestLead_34 : decode cX4_greatestLead 34 = .ok (.invokestatic 37, 3) := by decide +kernel
theorem dX4_greatestLead_37 : decode cX4_greatestLead 37 = .ok (.lstore 4, 2) := by decide +kernel
theorem dX4_greatestLead_39 : decode cX4_greatestLead 39 = .ok (.iinc 6 1, 3) := by decide +kernel
theorem dX4_greatestLead_42 : decode cX4_greatestLead 42 = .ok (.goto (-29), 3) := by decide +kernel
theorem dX4_greatestLead_45 : decode cX4_greatestLead 45 = .ok (.lload 4, 2) := by decide +kernel
theorem dX4_greatestLead_47 : decode cX4_greatestLead 47 = .ok (.lreturn, 1) := by decide +kernel
theorem dX4_longestWait_0 : decode cX4_longestWait 0 = .ok (.aload_n 0, 1) := by decide +kernel
theorem dX4_longestWait_1 : decode cX4_longestWait 1 = .ok (.aload_n 1, 1) := by decide +kernel
theorem dX4_longestWait_2 : decode cX4_longestWait 2 = .ok (.iload_n 2, 1) := by decide +kernel
theorem dX4_longestWait_3 : decode cX4_longestWait 3 = .ok (.invokestatic 28, 3) := by decide +kernel
theorem dX4_longestWait_6 : decode cX4_longestWait 6 = .ok (.istore_n 3, 1) := by decide +kernel
theorem dX4_longestWait_7 : decode cX4_longestWait 7 = .ok (.iconst 0, 1) := by decide +kernel
theorem dX4_longestWait_8 : decode cX4_longestWait 8 = .ok (.istore 4, 2) := by decide +kernel
theorem dX4_longestWait_10 : decode cX4_longestWait 10 = .ok (.iconst 0, 1) := by decide +kernel
theorem dX4_longestWait_11 : decode cX4_longestWait 11 = .ok (.istore 5, 2) := by decide +kernel
theorem dX4_longestWait_13 : decode cX4_longestWait 13 = .ok (.iload 5, 2) := by decide +kernel
theorem dX4_longestWait_15 : decode cX4_longestWait 15 = .ok (.iload_n 3, 1) := by decide +kernel
theorem dX4_longestWait_16 : decode cX4_longestWait 16 = .ok (.if_icmp .ge 60, 3) := by decide +kernel
theorem dX4_longestWait_19 : decode cX4_longestWait 19 = .ok (.aload_n 0, 1) := by decide +kernel
theorem dX4_longestWait_20 : decode cX4_longestWait 20 = .ok (.iload 5, 2) := by decide +kernel
theorem dX4_longestWait_22 : decode cX4_longestWait 22 = .ok (.invokevirtual 34, 3) := by decide +kernel
theorem dX4_longestWait_25 : decode cX4_longestWait 25 = .ok (.lstore 6, 2) := by decide +kernel
theorem dX4_longestWait_27 : decode cX4_longestWait 27 = .ok (.aload_n 1, 1) := by decide +kernel
theorem dX4_longestWait_28 : decode cX4_longestWait 28 = .ok (.iload 5, 2) := by decide +kernel
theorem dX4_longestWait_30 : decode cX4_longestWait 30 = .ok (.iload 4, 2) := by decide +kernel
theorem dX4_longestWait_32 : decode cX4_longestWait 32 = .ok (.iadd, 1) := by decide +kernel
theorem dX4_longestWait_33 : decode cX4_longestWait 33 = .ok (.invokevirtual 34, 3) := by decide +kernel
theorem dX4_longestWait_36 : decode cX4_longestWait 36 = .ok (.lload 6, 2) := by decide +kernel
theorem dX4_longestWait_38 : decode cX4_longestWait 38 = .ok (.lcmp, 1) := by decide +kernel
theorem dX4_longestWait_39 : decode cX4_longestWait 39 = .ok (.ifCond .ge 31, 3) := by decide +kernel
theorem dX4_longestWait_42 : decode cX4_longestWait 42 = .ok (.aload_n 1, 1) := by decide +kernel
theorem dX4_longestWait_43 : decode cX4_longestWait 43 = .ok (.lload 6, 2) := by decide +kernel
theorem dX4_longestWait_45 : decode cX4_longestWait 45 = .ok (.iload 5, 2) := by decide +kernel
theorem dX4_longestWait_47 : decode cX4_longestWait 47 = .ok (.ldc 40, 2) := by decide +kernel
theorem dX4_longestWait_49 : decode cX4_longestWait 49 = .ok (.iadd, 1) := by decide +kernel
theorem dX4_longestWait_50 : decode cX4_longestWait 50 = .ok (.invokevirtual 41, 3) := by decide +kernel
theorem dX4_longestWait_53 : decode cX4_longestWait 53 = .ok (.istore 8, 2) := by decide +kernel
theorem dX4_longestWait_55 : decode cX4_longestWait 55 = .ok (.iload 8, 2) := by decide +kernel
theorem dX4_longestWait_57 : decode cX4_longestWait 57 = .ok (.iconst (-1), 1) := by decide +kernel
theorem dX4_longestWait_58 : decode cX4_longestWait 58 = .ok (.if_icmp .ne 5, 3) := by decide +kernel
theorem dX4_longestWait_61 : decode cX4_longestWait 61 = .ok (.iconst (-1), 1) := by decide +kernel
theorem dX4_longestWait_62 : decode cX4_longestWait 62 = .ok (.ireturn, 1) := by decide +kernel
theorem dX4_longestWait_63 : decode cX4_longestWait 63 = .ok (.iload 8, 2) := by decide +kernel
theorem dX4_longestWait_65 : decode cX4_longestWait 65 = .ok (.iload 5, 2) := by decide +kernel
theorem dX4_longestWait_67 : decode cX4_longestWait 67 = .ok (.isub, 1) := by decide +kernel
theorem dX4_longestWait_68 : decode cX4_longestWait 68 = .ok (.istore 4, 2) := by decide +kernel
theorem dX4_longestWait_70 : decode cX4_longestWait 70 = .ok (.iinc 5 1, 3) := by decide +kernel
theorem dX4_longestWait_73 : decode cX4_longestWait 73 = .ok (.goto (-60), 3) := by decide +kernel
theorem dX4_longestWait_76 : decode cX4_longestWait 76 = .ok (.iload 4, 2) := by decide +kernel
theorem dX4_longestWait_78 : decode cX4_longestWait 78 = .ok (.ireturn, 1) := by decide +kernel
theorem dX5_init_0 : decode cX5_init 0 = .ok (.aload_n 0, 1) := by decide +kernel
theorem dX5_init_1 : decode cX5_init 1 = .ok (.iload_n 1, 1) := by decide +kernel
theorem dX5_init_2 : decode cX5_init 2 = .ok (.iload_n 2, 1) := by decide +kernel
theorem dX5_init_3 : decode cX5_init 3 = .ok (.iload_n 3, 1) := by decide +kernel
theorem dX5_init_4 : decode cX5_init 4 = .ok (.aload 4, 2) := by decide +kernel
theorem dX5_init_6 : decode cX5_init 6 = .ok (.invokespecial 3, 3) := by decide +kernel
theorem dX5_init_9 : decode cX5_init 9 = .ok (.return_, 1) := by decide +kernel
theorem dX5_kind_0 : decode cX5_kind 0 = .ok (.iconst 2, 1) := by decide +kernel
theorem dX5_kind_1 : decode cX5_kind 1 = .ok (.ireturn, 1) := by decide +kernel
theorem dX5_asked_0 : decode cX5_asked 0 = .ok (.aload_n 2, 1) := by decide +kernel
theorem dX5_asked_1 : decode cX5_asked 1 = .ok (.iconst 2, 1) := by decide +kernel
theorem dX5_asked_2 : decode cX5_asked 2 = .ok (.invokevirtual 9, 3) := by decide +kernel
theorem dX5_asked_5 : decode cX5_asked 5 = .ok (.aload_n 0, 1) := by decide +kernel
theorem dX5_asked_6 : decode cX5_asked 6 = .ok (.getfield 15, 3) := by decide +kernel
theorem dX5_asked_9 : decode cX5_asked 9 = .ok (.i2l, 1) := by decide +kernel
theorem dX5_asked_10 : decode cX5_asked 10 = .ok (.iload_n 1, 1) := by decide +kernel
theorem dX5_asked_11 : decode cX5_asked 11 = .ok (.i2l, 1) := by decide +kernel
theorem dX5_asked_12 : decode cX5_asked 12 = .ok (.lmul, 1) := by decide +kernel
theorem dX5_asked_13 : decode cX5_asked 13 = .ok (.lreturn, 1) := by decide +kernel
theorem dX6_init_0 : decode cX6_init 0 = .ok (.aload_n 0, 1) := by decide +kernel
theorem dX6_init_1 : decode cX6_init 1 = .ok (.invokespecial 3, 3) := by decide +kernel
theorem dX6_init_4 : decode cX6_init 4 = .ok (.aload_n 0, 1) := by decide +kernel
theorem dX6_init_5 : decode cX6_init 5 = .ok (.bipush 61, 2) := by decide +kernel
theorem dX6_init_7 : decode cX6_init 7 = .ok (.newarray .long, 2) := by decide +kernel
theorem dX6_init_9 : decode cX6_init 9 = .ok (.putfield 9, 3) := by decide +kernel
theorem dX6_init_12 : decode cX6_init 12 = .ok (.aload_n 0, 1) := by decide +kernel
theorem dX6_init_13 : decode cX6_init 13 = .ok (.iconst 0, 1) := by decide +kernel
theorem dX6_init_14 : decode cX6_init 14 = .ok (.putfield 15, 3) := by decide +kernel
theorem dX6_init_17 : decode cX6_init 17 = .ok (.return_, 1) := by decide +kernel
theorem dX6_isFull_0 : decode cX6_isFull 0 = .ok (.aload_n 0, 1) := by decide +kernel
theorem dX6_isFull_1 : decode cX6_isFull 1 = .ok (.getfield 15, 3) := by decide +kernel
theorem dX6_isFull_4 : decode cX6_isFull 4 = .ok (.ifCond .lt 17, 3) := by decide +kernel
theorem dX6_isFull_7 : decode cX6_isFull 7 = .ok (.aload_n 0, 1) := by decide +kernel
theorem dX6_isFull_8 : decode cX6_isFull 8 = .ok (.getfield 15, 3) := by decide +kernel
theorem dX6_isFull_11 : decode cX6_isFull 11 = .ok (.iconst 1, 1) := by decide +kernel
theorem dX6_isFull_12 : decode cX6_isFull 12 = .ok (.iadd, 1) := by decide +kernel
theorem dX6_isFull_13 : decode cX6_isFull 13 = .ok (.aload_n 0, 1) := by decide +kernel
theorem dX6_isFull_14 : decode cX6_isFull 14 = .ok (.getfield 9, 3) := by decide +kernel
theorem dX6_isFull_17 : decode cX6_isFull 17 = .ok (.arraylength, 1) := by decide +kernel
theorem dX6_isFull_18 : decode cX6_isFull 18 = .ok (.if_icmp .lt 7, 3) := by decide +kernel
theorem dX6_isFull_21 : decode cX6_isFull 21 = .ok (.iconst 1, 1) := by decide +kernel
theorem dX6_isFull_22 : decode cX6_isFull 22 = .ok (.goto 4, 3) := by decide +kernel
theorem dX6_isFull_25 : decode cX6_isFull 25 = .ok (.iconst 0, 1) := by decide +kernel
theorem dX6_isFull_26 : decode cX6_isFull 26 = .ok (.ireturn, 1) := by decide +kernel
theorem dX6_add_0 : decode cX6_add 0 = .ok (.aload_n 0, 1) := by decide +kernel
theorem dX6_add_1 : decode cX6_add 1 = .ok (.invokevirtual 19, 3) := by decide +kernel
theorem dX6_add_4 : decode cX6_add 4 = .ok (.ifCond .ne 35, 3) := by decide +kernel
theorem dX6_add_7 : decode cX6_add 7 = .ok (.aload_n 0, 1) := by decide +kernel
theorem dX6_add_8 : decode cX6_add 8 = .ok (.getfield 9, 3) := by decide +kernel
theorem dX6_add_11 : decode cX6_add 11 = .ok (.aload_n 0, 1) := by decide +kernel
theorem dX6_add_12 : decode cX6_add 12 = .ok (.getfield 15, 3) := by decide +kernel
theorem dX6_add_15 : decode cX6_add 15 = .ok (.iconst 1, 1) := by decide +kernel
theorem dX6_add_16 : decode cX6_add 16 = .ok (.iadd, 1) := by decide +kernel
theorem dX6_add_17 : decode cX6_add 17 = .ok (.aload_n 0, 1) := by decide +kernel
theorem dX6_add_18 : decode cX6_add 18 = .ok (.getfield 9, 3) := by decide +kernel
theorem dX6_add_21 : decode cX6_add 21 = .ok (.aload_n 0, 1) := by decide +kernel
theorem dX6_add_22 : decode cX6_add 22 = .ok (.getfield 15, 3) := by decide +kernel
theorem dX6_add_25 : decode cX6_add 25 = .ok (.laload, 1) := by decide +kernel
theorem dX6_add_26 : decode cX6_add 26 = .ok (.lload_n 1, 1) := by decide +kernel
theorem dX6_add_27 : decode cX6_add 27 = .ok (.ladd, 1) := by decide +kernel
theorem dX6_add_28 : decode cX6_add 28 = .ok (.lastore, 1) := by decide +kernel
theorem dX6_add_29 : decode cX6_add 29 = .ok (.aload_n 0, 1) := by decide +kernel
theorem dX6_add_30 : decode cX6_add 30 = .ok (.dup, 1) := by decide +kernel
theorem dX6_add_31 : decode cX6_add 31 = .ok (.getfield 15, 3) := by decide +kernel
theorem dX6_add_34 : decode cX6_add 34 = .ok (.iconst 1, 1) := by decide +kernel
theorem dX6_add_35 : decode cX6_add 35 = .ok (.iadd, 1) := by decide +kernel
theorem dX6_add_36 : decode cX6_add 36 = .ok (.putfield 15, 3) := by decide +kernel
theorem dX6_add_39 : decode cX6_add 39 = .ok (.return_, 1) := by decide +kernel
theorem dX6_hardestStep_0 : decode cX6_hardestStep 0 = .ok (.iload_n 1, 1) := by decide +kernel
theorem dX6_hardestStep_1 : decode cX6_hardestStep 1 = .ok (.iconst 1, 1) := by decide +kernel
theorem dX6_hardestStep_2 : decode cX6_hardestStep 2 = .ok (.if_icmp .ne 11, 3) := by decide +kernel
theorem dX6_hardestStep_5 : decode cX6_hardestStep 5 = .ok (.aload_n 0, 1) := by decide +kernel
theorem dX6_hardestStep_6 : decode cX6_hardestStep 6 = .ok (.iconst 1, 1) := by decide +kernel
theorem dX6_hardestStep_7 : decode cX6_hardestStep 7 = .ok (.invokevirtual 23, 3) := by decide +kernel
theorem dX6_hardestStep_10 : decode cX6_hardestStep 10 = .ok (.goto 16, 3) := by decide +kernel
theorem dX6_hardestStep_13 : decode cX6_hardestStep 13 = .ok (.aload_n 0, 1) := by decide +kernel
theorem dX6_hardestStep_14 : decode cX6_hardestStep 14 = .ok (.iload_n 1, 1) := by decide +kernel
theorem dX6_hardestStep_15 : decode cX6_hardestStep 15 = .ok (.invokevirtual 23, 3) := by decide +kernel
theorem dX6_hardestStep_18 : decode cX6_hardestStep 18 = .ok (.aload_n 0, 1) := by decide +kernel
theorem dX6_hardestStep_19 : decode cX6_hardestStep 19 = .ok (.iload_n 1, 1) := by decide +kernel
theorem dX6_hardestStep_20 : decode cX6_hardestStep 20 = .ok (.iconst 1, 1) := by decide +kernel
theorem dX6_hardestStep_21 : decode cX6_hardestStep 21 = .ok (.isub, 1) := by decide +kernel
theorem dX6_hardestStep_22 : decode cX6_hardestStep 22 = .ok (.invokevirtual 23, 3) := by decide +kernel
theorem dX6_hardestStep_25 : decode cX6_hardestStep 25 = .ok (.lsub, 1) := by decide +kernel
theorem dX6_hardestStep_26 : decode cX6_hardestStep 26 = .ok (.lreturn, 1) := by decide +kernel
theorem dX6_canFollow_0 : decode cX6_canFollow 0 = .ok (.iconst 1, 1) := by decide +kernel
theorem dX6_canFollow_1 : decode cX6_canFollow 1 = .ok (.istore_n 2, 1) := by decide +kernel
theorem dX6_canFollow_2 : decode cX6_canFollow 2 = .ok (.iload_n 2, 1) := by decide +kernel
theorem dX6_canFollow_3 : decode cX6_canFollow 3 = .ok (.iload_n 1, 1) := by decide +kernel
theorem dX6_canFollow_4 : decode cX6_canFollow 4 = .ok (.if_icmp .gt 23, 3) := by decide +kernel
theorem dX6_canFollow_7 : decode cX6_canFollow 7 = .ok (.aload_n 0, 1) := by decide +kernel
theorem dX6_canFollow_8 : decode cX6_canFollow 8 = .ok (.iload_n 2, 1) := by decide +kernel
theorem dX6_canFollow_9 : decode cX6_canFollow 9 = .ok (.invokestatic 29, 3) := by decide +kernel
theorem dX6_canFollow_12 : decode cX6_canFollow 12 = .ok (.ldc2_w 33, 3) := by decide +kernel
theorem dX6_canFollow_15 : decode cX6_canFollow 15 = .ok (.lcmp, 1) := by decide +kernel
theorem dX6_canFollow_16 : decode cX6_canFollow 16 = .ok (.ifCond .le 5, 3) := by decide +kernel
theorem dX6_canFollow_19 : decode cX6_canFollow 19 = .ok (.iconst 0, 1) := by decide +kernel
theorem dX6_canFollow_20 : decode cX6_canFollow 20 = .ok (.ireturn, 1) := by decide +kernel
theorem dX6_canFollow_21 : decode cX6_canFollow 21 = .ok (.iinc 2 1, 3) := by decide +kernel
theorem dX6_canFollow_24 : decode cX6_canFollow 24 = .ok (.goto (-22), 3) := by decide +kernel
theorem dX6_canFollow_27 : decode cX6_canFollow 27 = .ok (.iconst 1, 1) := by decide +kernel
theorem dX6_canFollow_28 : decode cX6_canFollow 28 = .ok (.ireturn, 1) := by decide +kernel
theorem dX6_follow_0 : decode cX6_follow 0 = .ok (.aload_n 0, 1) := by decide +kernel
theorem dX6_follow_1 : decode cX6_follow 1 = .ok (.iconst 0, 1) := by decide +kernel
theorem dX6_follow_2 : decode cX6_follow 2 = .ok (.putfield 15, 3) := by decide +kernel
theorem dX6_follow_5 : decode cX6_follow 5 = .ok (.iconst 1, 1) := by decide +kernel
theorem dX6_follow_6 : decode cX6_follow 6 = .ok (.istore_n 3, 1) := by decide +kernel
theorem dX6_follow_7 : decode cX6_follow 7 = .ok (.iload_n 3, 1) := by decide +kernel
theorem dX6_follow_8 : decode cX6_follow 8 = .ok (.iload_n 2, 1) := by decide +kernel
theorem dX6_follow_9 : decode cX6_follow 9 = .ok (.if_icmp .gt 18, 3) := by decide +kernel
theorem dX6_follow_12 : decode cX6_follow 12 = .ok (.aload_n 0, 1) := by decide +kernel
theorem dX6_follow_13 : decode cX6_follow 13 = .ok (.aload_n 1, 1) := by decide +kernel
theorem dX6_follow_14 : decode cX6_follow 14 = .ok (.iload_n 3, 1) := by decide +kernel
theorem dX6_follow_15 : decode cX6_follow 15 = .ok (.invokestatic 29, 3) := by decide +kernel
theorem dX6_follow_18 : decode cX6_follow 18 = .ok (.invokevirtual 35, 3) := by decide +kernel
theorem dX6_follow_21 : decode cX6_follow 21 = .ok (.iinc 3 1, 3) := by decide +kernel
theorem dX6_follow_24 : decode cX6_follow 24 = .ok (.goto (-17), 3) := by decide +kernel
theorem dX6_follow_27 : decode cX6_follow 27 = .ok (.return_, 1) := by decide +kernel
theorem dX6_arrived_0 : decode cX6_arrived 0 = .ok (.iload_n 1, 1) := by decide +kernel
theorem dX6_arrived_1 : decode cX6_arrived 1 = .ok (.aload_n 0, 1) := by decide +kernel
theorem dX6_arrived_2 : decode cX6_arrived 2 = .ok (.getfield 15, 3) := by decide +kernel
theorem dX6_arrived_5 : decode cX6_arrived 5 = .ok (.invokestatic 39, 3) := by decide +kernel
theorem dX6_arrived_8 : decode cX6_arrived 8 = .ok (.istore_n 2, 1) := by decide +kernel
theorem dX6_arrived_9 : decode cX6_arrived 9 = .ok (.iload_n 2, 1) := by decide +kernel
theorem dX6_arrived_10 : decode cX6_arrived 10 = .ok (.ifCond .lt 12, 3) := by decide +kernel
theorem dX6_arrived_13 : decode cX6_arrived 13 = .ok (.iload_n 2, 1) := by decide +kernel
theorem dX6_arrived_14 : decode cX6_arrived 14 = .ok (.aload_n 0, 1) := by decide +kernel
theorem dX6_arrived_15 : decode cX6_arrived 15 = .ok (.getfield 9, 3) := by decide +kernel
theorem dX6_arrived_18 : decode cX6_arrived 18 = .ok (.arraylength, 1) := by decide +kernel
theorem dX6_arrived_19 : decode cX6_arrived 19 = .ok (.if_icmp .lt 7, 3) := by decide +kernel
theorem dX6_arrived_22 : decode cX6_arrived 22 = .ok (.lconst 0, 1) := by decide +kernel
theorem dX6_arrived_23 : decode cX6_arrived 23 = .ok (.goto 9, 3) := by decide +kernel
theorem dX6_arrived_26 : decode cX6_arrived 26 = .ok (.aload_n 0, 1) := by decide +kernel
theorem dX6_arrived_27 : decode cX6_arrived 27 = .ok (.getfield 9, 3) := by decide +kernel
theorem dX6_arrived_30 : decode cX6_arrived 30 = .ok (.iload_n 2, 1) := by decide +kernel
theorem dX6_arrived_31 : decode cX6_arrived 31 = .ok (.laload, 1) := by decide +kernel
theorem dX6_arrived_32 : decode cX6_arrived 32 = .ok (.lreturn, 1) := by decide +kernel
theorem dX6_passed_0 : decode cX6_passed 0 = .ok (.aload_n 0, 1) := by decide +kernel
theorem dX6_passed_1 : decode cX6_passed 1 = .ok (.iload_n 2, 1) := by decide +kernel
theorem dX6_passed_2 : decode cX6_passed 2 = .ok (.invokevirtual 45, 3) := by decide +kernel
theorem dX6_passed_5 : decode cX6_passed 5 = .ok (.lstore_n 3, 1) := by decide +kernel
theorem dX6_passed_6 : decode cX6_passed 6 = .ok (.iconst 0, 1) := by decide +kernel
theorem dX6_passed_7 : decode cX6_passed 7 = .ok (.istore 5, 2) := by decide +kernel
theorem dX6_passed_9 : decode cX6_passed 9 = .ok (.iload 5, 2) := by decide +kernel
theorem dX6_passed_11 : decode cX6_passed 11 = .ok (.iload_n 2, 1) := by decide +kernel
theorem dX6_passed_12 : decode cX6_passed 12 = .ok (.if_icmp .gt 38, 3) := by decide +kernel
theorem dX6_passed_15 : decode cX6_passed 15 = .ok (.iload 5, 2) := by decide +kernel
theorem dX6_passed_17 : decode cX6_passed 17 = .ok (.aload_n 0, 1) := by decide +kernel
theorem dX6_passed_18 : decode cX6_passed 18 = .ok (.getfield 15, 3) := by decide +kernel
theorem dX6_passed_21 : decode cX6_passed 21 = .ok (.if_icmp .gt 29, 3) := by decide +kernel
theorem dX6_passed_24 : decode cX6_passed 24 = .ok (.lload_n 3, 1) := by decide +kernel
theorem dX6_passed_25 : decode cX6_passed 25 = .ok (.aload_n 0, 1) := by decide +kernel
theorem dX6_passed_26 : decode cX6_passed 26 = .ok (.iload 5, 2) := by decide +kernel
theorem dX6_passed_28 : decode cX6_passed 28 = .ok (.invokevirtual 45, 3) := by decide +kernel
theorem dX6_passed_31 : decode cX6_passed 31 = .ok (.aload_n 1, 1) := by decide +kernel
theorem dX6_passed_32 : decode cX6_passed 32 = .ok (.iload_n 2, 1) := by decide +kernel
theorem dX6_passed_33 : decode cX6_passed 33 = .ok (.iload 5, 2) := by decide +kernel
theorem dX6_passed_35 : decode cX6_passed 35 = .ok (.isub, 1) := by decide +kernel
theorem dX6_passed_36 : decode cX6_passed 36 = .ok (.invokevirtual 23, 3) := by decide +kernel
theorem dX6_passed_39 : decode cX6_passed 39 = .ok (.ladd, 1) := by decide +kernel
theorem dX6_passed_40 : decode cX6_passed 40 = .ok (.invokestatic 48, 3) := by decide +kernel
theorem dX6_passed_43 : decode cX6_passed 43 = .ok (.lstore_n 3, 1) := by decide +kernel
theorem dX6_passed_44 : decode cX6_passed 44 = .ok (.iinc 5 1, 3) := by decide +kernel
theorem dX6_passed_47 : decode cX6_passed 47 = .ok (.goto (-38), 3) := by decide +kernel
theorem dX6_passed_50 : decode cX6_passed 50 = .ok (.lload_n 3, 1) := by decide +kernel
theorem dX6_passed_51 : decode cX6_passed 51 = .ok (.lreturn, 1) := by decide +kernel
theorem dX6_held_0 : decode cX6_held 0 = .ok (.aload_n 0, 1) := by decide +kernel
theorem dX6_held_1 : decode cX6_held 1 = .ok (.iload_n 2, 1) := by decide +kernel
theorem dX6_held_2 : decode cX6_held 2 = .ok (.invokevirtual 45, 3) := by decide +kernel
theorem dX6_held_5 : decode cX6_held 5 = .ok (.aload_n 0, 1) := by decide +kernel
theorem dX6_held_6 : decode cX6_held 6 = .ok (.aload_n 1, 1) := by decide +kernel
theorem dX6_held_7 : decode cX6_held 7 = .ok (.iload_n 2, 1) := by decide +kernel
theorem dX6_held_8 : decode cX6_held 8 = .ok (.invokevirtual 51, 3) := by decide +kernel
theorem dX6_held_11 : decode cX6_held 11 = .ok (.lsub, 1) := by decide +kernel
theorem dX6_held_12 : decode cX6_held 12 = .ok (.lreturn, 1) := by decide +kernel
theorem dX6_lateness_0 : decode cX6_lateness 0 = .ok (.aload_n 0, 1) := by decide +kernel
theorem dX6_lateness_1 : decode cX6_lateness 1 = .ok (.iload_n 2, 1) := by decide +kernel
theorem dX6_lateness_2 : decode cX6_lateness 2 = .ok (.invokevirtual 45, 3) := by decide +kernel
theorem dX6_lateness_5 : decode cX6_lateness 5 = .ok (.lstore_n 3, 1) := by decide +kernel
theorem dX6_lateness_6 : decode cX6_lateness 6 = .ok (.iconst (-1), 1) := by decide +kernel
theorem dX6_lateness_7 : decode cX6_lateness 7 = .ok (.istore 5, 2) := by decide +kernel
theorem dX6_lateness_9 : decode cX6_lateness 9 = .ok (.bipush 8, 2) := by decide +kernel
theorem dX6_lateness_11 : decode cX6_lateness 11 = .ok (.istore 6, 2) := by decide +kernel
theorem dX6_lateness_13 : decode cX6_lateness 13 = .ok (.iload 6, 2) := by decide +kernel
theorem dX6_lateness_15 : decode cX6_lateness 15 = .ok (.ifCond .lt 44, 3) := by decide +kernel
theorem dX6_lateness_18 : decode cX6_lateness 18 = .ok (.iload 5, 2) := by decide +kernel
theorem dX6_lateness_20 : decode cX6_lateness 20 = .ok (.iconst 1, 1) := by decide +kernel
theorem dX6_lateness_21 : decode cX6_lateness 21 = .ok (.iload 6, 2) := by decide +kernel
theorem dX6_lateness_23 : decode cX6_lateness 23 = .ok (.ishl, 1) := by decide +kernel
theorem dX6_lateness_24 : decode cX6_lateness 24 = .ok (.iadd, 1) := by decide +kernel
theorem dX6_lateness_25 : decode cX6_lateness 25 = .ok (.istore 7, 2) := by decide +kernel
theorem dX6_lateness_27 : decode cX6_lateness 27 = .ok (.iload 7, 2) := by decide +kernel
theorem dX6_lateness_29 : decode cX6_lateness 29 = .ok (.sipush 500, 3) := by decide +kernel
theorem dX6_lateness_32 : decode cX6_lateness 32 = .ok (.if_icmp .gt 21, 3) := by decide +kernel
theorem dX6_lateness_35 : decode cX6_lateness 35 = .ok (.aload_n 0, 1) := by decide +kernel
theorem dX6_lateness_36 : decode cX6_lateness 36 = .ok (.aload_n 1, 1) := by decide +kernel
theorem dX6_lateness_37 : decode cX6_lateness 37 = .ok (.iload_n 2, 1) := by decide +kernel
theorem dX6_lateness_38 : decode cX6_lateness 38 = .ok (.iload 7, 2) := by decide +kernel
theorem dX6_lateness_40 : decode cX6_lateness 40 = .ok (.iadd, 1) := by decide +kernel
theorem dX6_lateness_41 : decode cX6_lateness 41 = .ok (.invokevirtual 51, 3) := by decide +kernel
theorem dX6_lateness_44 : decode cX6_lateness 44 = .ok (.lload_n 3, 1) := by decide +kernel
theorem dX6_lateness_45 : decode cX6_lateness 45 = .ok (.lcmp, 1) := by decide +kernel
theorem dX6_lateness_46 : decode cX6_lateness 46 = .ok (.ifCond .ge 7, 3) := by decide +kernel
theorem dX6_lateness_49 : decode cX6_lateness 49 = .ok (.iload 7, 2) := by decide +kernel
theorem dX6_lateness_51 : decode cX6_lateness 51 = .ok (.istore 5, 2) := by decide +kernel
theorem dX6_lateness_53 : decode cX6_lateness 53 = .ok (.iinc 6 (-1), 3) := by decide +kernel
theorem dX6_lateness_56 : decode cX6_lateness 56 = .ok (.goto (-43), 3) := by decide +kernel
theorem dX6_lateness_59 : decode cX6_lateness 59 = .ok (.iload 5, 2) := by decide +kernel
theorem dX6_lateness_61 : decode cX6_lateness 61 = .ok (.sipush 500, 3) := by decide +kernel
theorem dX6_lateness_64 : decode cX6_lateness 64 = .ok (.if_icmp .ge 10, 3) := by decide +kernel
theorem dX6_lateness_67 : decode cX6_lateness 67 = .ok (.iload 5, 2) := by decide +kernel
theorem dX6_lateness_69 : decode cX6_lateness 69 = .ok (.iconst 1, 1) := by decide +kernel
theorem dX6_lateness_70 : decode cX6_lateness 70 = .ok (.iadd, 1) := by decide +kernel
theorem dX6_lateness_71 : decode cX6_lateness 71 = .ok (.goto 4, 3) := by decide +kernel
theorem dX6_lateness_74 : decode cX6_lateness 74 = .ok (.iconst (-1), 1) := by decide +kernel
theorem dX6_lateness_75 : decode cX6_lateness 75 = .ok (.ireturn, 1) := by decide +kernel
theorem dX6_greatestHeld_0 : decode cX6_greatestHeld 0 = .ok (.lconst 0, 1) := by decide +kernel
theorem dX6_greatestHeld_1 : decode cX6_greatestHeld 1 = .ok (.lstore_n 2, 1) := by decide +kernel
theorem dX6_greatestHeld_2 : decode cX6_greatestHeld 2 = .ok (.iconst 0, 1) := by decide +kernel
theorem dX6_greatestHeld_3 : decode cX6_greatestHeld 3 = .ok (.istore 4, 2) := by decide +kernel
theorem dX6_greatestHeld_5 : decode cX6_greatestHeld 5 = .ok (.iload 4, 2) := by decide +kernel
theorem dX6_greatestHeld_7 : decode cX6_greatestHeld 7 = .ok (.aload_n 0, 1) := by decide +kernel
theorem dX6_greatestHeld_8 : decode cX6_greatestHeld 8 = .ok (.getfield 15, 3) := by decide +kernel
theorem dX6_greatestHeld_11 : decode cX6_greatestHeld 11 = .ok (.if_icmp .gt 21, 3) := by decide +kernel
theorem dX6_greatestHeld_14 : decode cX6_greatestHeld 14 = .ok (.lload_n 2, 1) := by decide +kernel
theorem dX6_greatestHeld_15 : decode cX6_greatestHeld 15 = .ok (.aload_n 0, 1) := by decide +kernel
theorem dX6_greatestHeld_16 : decode cX6_greatestHeld 16 = .ok (.aload_n 1, 1) := by decide +kernel
theorem dX6_greatestHeld_17 : decode cX6_greatestHeld 17 = .ok (.iload 4, 2) := by decide +kernel
theorem dX6_greatestHeld_19 : decode cX6_greatestHeld 19 = .ok (.invokevirtual 54, 3) := by decide +kernel
theorem dX6_greatestHeld_22 : decode cX6_greatestHeld 22 = .ok (.invokestatic 57, 3) := by decide +kernel
theorem dX6_greatestHeld_25 : decode cX6_greatestHeld 25 = .ok (.lstore_n 2, 1) := by decide +kernel
theorem dX6_greatestHeld_26 : decode cX6_greatestHeld 26 = .ok (.iinc 4 1, 3) := by decide +kernel
theorem dX6_greatestHeld_29 : decode cX6_greatestHeld 29 = .ok (.goto (-24), 3) := by decide +kernel
theorem dX6_greatestHeld_32 : decode cX6_greatestHeld 32 = .ok (.lload_n 2, 1) := by decide +kernel
theorem dX6_greatestHeld_33 : decode cX6_greatestHeld 33 = .ok (.lreturn, 1) := by decide +kernel
theorem dX6_greatestLateness_0 : decode cX6_greatestLateness 0 = .ok (.iconst 0, 1) := by decide +kernel
theorem dX6_greatestLateness_1 : decode cX6_greatestLateness 1 = .ok (.istore_n 2, 1) := by decide +kernel
theorem dX6_greatestLateness_2 : decode cX6_greatestLateness 2 = .ok (.iconst 0, 1) := by decide +kernel
theorem dX6_greatestLateness_3 : decode cX6_greatestLateness 3 = .ok (.istore_n 3, 1) := by decide +kernel
theorem dX6_greatestLateness_4 : decode cX6_greatestLateness 4 = .ok (.iload_n 3, 1) := by decide +kernel
theorem dX6_greatestLateness_5 : decode cX6_greatestLateness 5 = .ok (.aload_n 0, 1) := by decide +kernel
theorem dX6_greatestLateness_6 : decode cX6_greatestLateness 6 = .ok (.getfield 15, 3) := by decide +kernel
theorem dX6_greatestLateness_9 : decode cX6_greatestLateness 9 = .ok (.if_icmp .gt 32, 3) := by decide +kernel
theorem dX6_greatestLateness_12 : decode cX6_greatestLateness 12 = .ok (.aload_n 0, 1) := by decide +kernel
theorem dX6_greatestLateness_13 : decode cX6_greatestLateness 13 = .ok (.aload_n 1, 1) := by decide +kernel
theorem dX6_greatestLateness_14 : decode cX6_greatestLateness 14 = .ok (.iload_n 3, 1) := by decide +kernel
theorem dX6_greatestLateness_15 : decode cX6_greatestLateness 15 = .ok (.invokevirtual 60, 3) := by decide +kernel
theorem dX6_greatestLateness_18 : decode cX6_greatestLateness 18 = .ok (.istore 4, 2) := by decide +kernel
theorem dX6_greatestLateness_20 : decode cX6_greatestLateness 20 = .ok (.iload 4, 2) := by decide +kernel
theorem dX6_greatestLateness_22 : decode cX6_greatestLateness 22 = .ok (.iconst (-1), 1) := by decide +kernel
theorem dX6_greatestLateness_23 : decode cX6_greatestLateness 23 = .ok (.if_icmp .ne 5, 3) := by decide +kernel
theorem dX6_greatestLateness_26 : decode cX6_greatestLateness 26 = .ok (.iconst (-1), 1) := by decide +kernel
theorem dX6_greatestLateness_27 : decode cX6_greatestLateness 27 = .ok (.ireturn, 1) := by decide +kernel
theorem dX6_greatestLateness_28 : decode cX6_greatestLateness 28 = .ok (.iload_n 2, 1) := by decide +kernel
theorem dX6_greatestLateness_29 : decode cX6_greatestLateness 29 = .ok (.iload 4, 2) := by decide +kernel
theorem dX6_greatestLateness_31 : decode cX6_greatestLateness 31 = .ok (.invokestatic 64, 3) := by decide +kernel
theorem dX6_greatestLateness_34 : decode cX6_greatestLateness 34 = .ok (.istore_n 2, 1) := by decide +kernel
theorem dX6_greatestLateness_35 : decode cX6_greatestLateness 35 = .ok (.iinc 3 1, 3) := by decide +kernel
theorem dX6_greatestLateness_38 : decode cX6_greatestLateness 38 = .ok (.goto (-34), 3) := by decide +kernel
theorem dX6_greatestLateness_41 : decode cX6_greatestLateness 41 = .ok (.iload_n 2, 1) := by decide +kernel
theorem dX6_greatestLateness_42 : decode cX6_greatestLateness 42 = .ok (.ireturn, 1) := by decide +kernel
theorem dX6_staysWithin_0 : decode cX6_staysWithin 0 = .ok (.iconst 0, 1) := by decide +kernel
theorem dX6_staysWithin_1 : decode cX6_staysWithin 1 = .ok (.istore_n 2, 1) := by decide +kernel
theorem dX6_staysWithin_2 : decode cX6_staysWithin 2 = .ok (.iload_n 2, 1) := by decide +kernel
theorem dX6_staysWithin_3 : decode cX6_staysWithin 3 = .ok (.aload_n 0, 1) := by decide +kernel
theorem dX6_staysWithin_4 : decode cX6_staysWithin 4 = .ok (.getfield 15, 3) := by decide +kernel
theorem dX6_staysWithin_7 : decode cX6_staysWithin 7 = .ok (.if_icmp .gt 46, 3) := by decide +kernel
theorem dX6_staysWithin_10 : decode cX6_staysWithin 10 = .ok (.iconst 0, 1) := by decide +kernel
theorem dX6_staysWithin_11 : decode cX6_staysWithin 11 = .ok (.istore_n 3, 1) := by decide +kernel
theorem dX6_staysWithin_12 : decode cX6_staysWithin 12 = .ok (.iload_n 3, 1) := by decide +kernel
theorem dX6_staysWithin_13 : decode cX6_staysWithin 13 = .ok (.iload_n 2, 1) := by decide +kernel
theorem dX6_staysWithin_14 : decode cX6_staysWithin 14 = .ok (.if_icmp .gt 33, 3) := by decide +kernel
theorem dX6_staysWithin_17 : decode cX6_staysWithin 17 = .ok (.aload_n 0, 1) := by decide +kernel
theorem dX6_staysWithin_18 : decode cX6_staysWithin 18 = .ok (.iload_n 2, 1) := by decide +kernel
theorem dX6_staysWithin_19 : decode cX6_staysWithin 19 = .ok (.invokevirtual 45, 3) := by decide +kernel
theorem dX6_staysWithin_22 : decode cX6_staysWithin 22 = .ok (.aload_n 0, 1) := by decide +kernel
theorem dX6_staysWithin_23 : decode cX6_staysWithin 23 = .ok (.iload_n 3, 1) := by decide +kernel
theorem dX6_staysWithin_24 : decode cX6_staysWithin 24 = .ok (.invokevirtual 45, 3) := by decide +kernel
theorem dX6_staysWithin_27 : decode cX6_staysWithin 27 = .ok (.lsub, 1) := by decide +kernel
theorem dX6_staysWithin_28 : decode cX6_staysWithin 28 = .ok (.aload_n 1, 1) := by decide +kernel
theorem dX6_staysWithin_29 : decode cX6_staysWithin 29 = .ok (.iload_n 2, 1) := by decide +kernel
theorem dX6_staysWithin_30 : decode cX6_staysWithin 30 = .ok (.iload_n 3, 1) := by decide +kernel
theorem dX6_staysWithin_31 : decode cX6_staysWithin 31 = .ok (.isub, 1) := by decide +kernel
theorem dX6_staysWithin_32 : decode cX6_staysWithin 32 = .ok (.invokevirtual 23, 3) := by decide +kernel
theorem dX6_staysWithin_35 : decode cX6_staysWithin 35 = .ok (.lcmp, 1) := by decide +kernel
theorem dX6_staysWithin_36 : decode cX6_staysWithin 36 = .ok (.ifCond .le 5, 3) := by decide +kernel
theorem dX6_staysWithin_39 : decode cX6_staysWithin 39 = .ok (.iconst 0, 1) := by decide +kernel
theorem dX6_staysWithin_40 : decode cX6_staysWithin 40 = .ok (.ireturn, 1) := by decide +kernel
theorem dX6_staysWithin_41 : decode cX6_staysWithin 41 = .ok (.iinc 3 1, 3) := by decide +kernel
theorem dX6_staysWithin_44 : decode cX6_staysWithin 44 = .ok (.goto (-32), 3) := by decide +kernel
theorem dX6_staysWithin_47 : decode cX6_staysWithin 47 = .ok (.iinc 2 1, 3) := by decide +kernel
theorem dX6_staysWithin_50 : decode cX6_staysWithin 50 = .ok (.goto (-48), 3) := by decide +kernel
theorem dX6_staysWithin_53 : decode cX6_staysWithin 53 = .ok (.iconst 1, 1) := by decide +kernel
theorem dX6_staysWithin_54 : decode cX6_staysWithin 54 = .ok (.ireturn, 1) := by decide +kernel
theorem dX7_init_0 : decode cX7_init 0 = .ok (.aload_n 0, 1) := by decide +kernel
theorem dX7_init_1 : decode cX7_init 1 = .ok (.iload_n 1, 1) := by decide +kernel
theorem dX7_init_2 : decode cX7_init 2 = .ok (.iload_n 2, 1) := by decide +kernel
theorem dX7_init_3 : decode cX7_init 3 = .ok (.iload_n 3, 1) := by decide +kernel
theorem dX7_init_4 : decode cX7_init 4 = .ok (.aload 4, 2) := by decide +kernel
theorem dX7_init_6 : decode cX7_init 6 = .ok (.invokespecial 3, 3) := by decide +kernel
theorem dX7_init_9 : decode cX7_init 9 = .ok (.return_, 1) := by decide +kernel
theorem dX7_kind_0 : decode cX7_kind 0 = .ok (.iconst 4, 1) := by decide +kernel
theorem dX7_kind_1 : decode cX7_kind 1 = .ok (.ireturn, 1) := by decide +kernel
theorem dX7_asked_0 : decode cX7_asked 0 = .ok (.aload_n 2, 1) := by decide +kernel
theorem dX7_asked_1 : decode cX7_asked 1 = .ok (.iconst 4, 1) := by decide +kernel
theorem dX7_asked_2 : decode cX7_asked 2 = .ok (.invokevirtual 9, 3) := by decide +kernel
theorem dX7_asked_5 : decode cX7_asked 5 = .ok (.aload_n 0, 1) := by decide +kernel
theorem dX7_asked_6 : decode cX7_asked 6 = .ok (.getfield 15, 3) := by decide +kernel
theorem dX7_asked_9 : decode cX7_asked 9 = .ok (.iconst 1, 1) := by decide +kernel
theorem dX7_asked_10 : decode cX7_asked 10 = .ok (.if_icmp .ge 7, 3) := by decide +kernel
theorem dX7_asked_13 : decode cX7_asked 13 = .ok (.lconst 0, 1) := by decide +kernel
theorem dX7_asked_14 : decode cX7_asked 14 = .ok (.goto 16, 3) := by decide +kernel
theorem dX7_asked_17 : decode cX7_asked 17 = .ok (.aload_n 0, 1) := by decide +kernel
theorem dX7_asked_18 : decode cX7_asked 18 = .ok (.getfield 21, 3) := by decide +kernel
theorem dX7_asked_21 : decode cX7_asked 21 = .ok (.i2l, 1) := by decide +kernel
theorem dX7_asked_22 : decode cX7_asked 22 = .ok (.iload_n 1, 1) := by decide +kernel
theorem dX7_asked_23 : decode cX7_asked 23 = .ok (.aload_n 0, 1) := by decide +kernel
theorem dX7_asked_24 : decode cX7_asked 24 = .ok (.getfield 15, 3) := by decide +kernel
theorem dX7_asked_27 : decode cX7_asked 27 = .ok (.idiv, 1) := by decide +kernel
theorem dX7_asked_28 : decode cX7_asked 28 = .ok (.i2l, 1) := by decide +kernel
theorem dX7_asked_29 : decode cX7_asked 29 = .ok (.lmul, 1) := by decide +kernel
theorem dX7_asked_30 : decode cX7_asked 30 = .ok (.lreturn, 1) := by decide +kernel
theorem dX8_init_0 : decode cX8_init 0 = .ok (.aload_n 0, 1) := by decide +kernel
theorem dX8_init_1 : decode cX8_init 1 = .ok (.invokespecial 3, 3) := by decide +kernel
theorem dX8_init_4 : decode cX8_init 4 = .ok (.aload_n 0, 1) := by decide +kernel
theorem dX8_init_5 : decode cX8_init 5 = .ok (.iconst 5, 1) := by decide +kernel
theorem dX8_init_6 : decode cX8_init 6 = .ok (.newarray .int, 2) := by decide +kernel
theorem dX8_init_8 : decode cX8_init 8 = .ok (.putfield 9, 3) := by decide +kernel
theorem dX8_init_11 : decode cX8_init 11 = .ok (.return_, 1) := by decide +kernel
theorem dX8_mark_0 : decode cX8_mark 0 = .ok (.iload_n 1, 1) := by decide +kernel
theorem dX8_mark_1 : decode cX8_mark 1 = .ok (.ifCond .lt 22, 3) := by decide +kernel
theorem dX8_mark_4 : decode cX8_mark 4 = .ok (.iload_n 1, 1) := by decide +kernel
theorem dX8_mark_5 : decode cX8_mark 5 = .ok (.aload_n 0, 1) := by decide +kernel
theorem dX8_mark_6 : decode cX8_mark 6 = .ok (.getfield 9, 3) := by decide +kernel
theorem dX8_mark_9 : decode cX8_mark 9 = .ok (.arraylength, 1) := by decide +kernel
theorem dX8_mark_10 : decode cX8_mark 10 = .ok (.if_icmp .ge 13, 3) := by decide +kernel
theorem dX8_mark_13 : decode cX8_mark 13 = .ok (.aload_n 0, 1) := by decide +kernel
theorem dX8_mark_14 : decode cX8_mark 14 = .ok (.getfield 9, 3) := by decide +kernel
theorem dX8_mark_17 : decode cX8_mark 17 = .ok (.iload_n 1, 1) := by decide +kernel
theorem dX8_mark_18 : decode cX8_mark 18 = .ok (.dup2, 1) := by decide +kernel
theorem dX8_mark_19 : decode cX8_mark 19 = .ok (.iaload, 1) := by decide +kernel
theorem dX8_mark_20 : decode cX8_mark 20 = .ok (.iconst 1, 1) := by decide +kernel
theorem dX8_mark_21 : decode cX8_mark 21 = .ok (.iadd, 1) := by decide +kernel
theorem dX8_mark_22 : decode cX8_mark 22 = .ok (.iastore, 1) := by decide +kernel
theorem dX8_mark_23 : decode cX8_mark 23 = .ok (.return_, 1) := by decide +kernel
theorem dX8_marks_0 : decode cX8_marks 0 = .ok (.iload_n 1, 1) := by decide +kernel
theorem dX8_marks_1 : decode cX8_marks 1 = .ok (.ifCond .lt 12, 3) := by decide +kernel
theorem dX8_marks_4 : decode cX8_marks 4 = .ok (.iload_n 1, 1) := by decide +kernel
theorem dX8_marks_5 : decode cX8_marks 5 = .ok (.aload_n 0, 1) := by decide +kernel
theorem dX8_marks_6 : decode cX8_marks 6 = .ok (.getfield 9, 3) := by decide +kernel
theorem dX8_marks_9 : decode cX8_marks 9 = .ok (.arraylength, 1) := by decide +kernel
theorem dX8_marks_10 : decode cX8_marks 10 = .ok (.if_icmp .lt 7, 3) := by decide +kernel
theorem dX8_marks_13 : decode cX8_marks 13 = .ok (.iconst 0, 1) := by decide +kernel
theorem dX8_marks_14 : decode cX8_marks 14 = .ok (.goto 9, 3) := by decide +kernel
theorem dX8_marks_17 : decode cX8_marks 17 = .ok (.aload_n 0, 1) := by decide +kernel
theorem dX8_marks_18 : decode cX8_marks 18 = .ok (.getfield 9, 3) := by decide +kernel
theorem dX8_marks_21 : decode cX8_marks 21 = .ok (.iload_n 1, 1) := by decide +kernel
theorem dX8_marks_22 : decode cX8_marks 22 = .ok (.iaload, 1) := by decide +kernel
theorem dX8_marks_23 : decode cX8_marks 23 = .ok (.ireturn, 1) := by decide +kernel
theorem dX9_init_0 : decode cX9_init 0 = .ok (.aload_n 0, 1) := by decide +kernel
theorem dX9_init_1 : decode cX9_init 1 = .ok (.invokespecial 1, 3) := by decide +kernel
theorem dX9_init_4 : decode cX9_init 4 = .ok (.aload_n 0, 1) := by decide +kernel
theorem dX9_init_5 : decode cX9_init 5 = .ok (.bipush 60, 2) := by decide +kernel
theorem dX9_init_7 : decode cX9_init 7 = .ok (.anewarray 9, 3) := by decide +kernel
theorem dX9_init_10 : decode cX9_init 10 = .ok (.putfield 11, 3) := by decide +kernel
theorem dX9_init_13 : decode cX9_init 13 = .ok (.aload_n 0, 1) := by decide +kernel
theorem dX9_init_14 : decode cX9_init 14 = .ok (.iconst 0, 1) := by decide +kernel
theorem dX9_init_15 : decode cX9_init 15 = .ok (.putfield 15, 3) := by decide +kernel
theorem dX9_init_18 : decode cX9_init 18 = .ok (.aload_n 0, 1) := by decide +kernel
theorem dX9_init_19 : decode cX9_init 19 = .ok (.iconst 0, 1) := by decide +kernel
theorem dX9_init_20 : decode cX9_init 20 = .ok (.putfield 19, 3) := by decide +kernel
theorem dX9_init_23 : decode cX9_init 23 = .ok (.aload_n 0, 1) := by decide +kernel
theorem dX9_init_24 : decode cX9_init 24 = .ok (.sipush 300, 3) := by decide +kernel
theorem dX9_init_27 : decode cX9_init 27 = .ok (.newarray .long, 2) := by decide +kernel
theorem dX9_init_29 : decode cX9_init 29 = .ok (.putfield 23, 3) := by decide +kernel
theorem dX9_init_32 : decode cX9_init 32 = .ok (.aload_n 0, 1) := by decide +kernel
theorem dX9_init_33 : decode cX9_init 33 = .ok (.iconst 0, 1) := by decide +kernel
theorem dX9_init_34 : decode cX9_init 34 = .ok (.putfield 27, 3) := by decide +kernel
theorem dX9_init_37 : decode cX9_init 37 = .ok (.aload_n 0, 1) := by decide +kernel
theorem dX9_init_38 : decode cX9_init 38 = .ok (.new 30, 3) := by decide +kernel
theorem dX9_init_41 : decode cX9_init 41 = .ok (.dup, 1) := by decide +kernel
theorem dX9_init_42 : decode cX9_init 42 = .ok (.invokespecial 32, 3) := by decide +kernel
theorem dX9_init_45 : decode cX9_init 45 = .ok (.putfield 33, 3) := by decide +kernel
theorem dX9_init_48 : decode cX9_init 48 = .ok (.aload_n 0, 1) := by decide +kernel
theorem dX9_init_49 : decode cX9_init 49 = .ok (.iconst (-1), 1) := by decide +kernel
theorem dX9_init_50 : decode cX9_init 50 = .ok (.putfield 37, 3) := by decide +kernel
theorem dX9_init_53 : decode cX9_init 53 = .ok (.aload_n 0, 1) := by decide +kernel
theorem dX9_init_54 : decode cX9_init 54 = .ok (.new 40, 3) := by decide +kernel
theorem dX9_init_57 : decode cX9_init 57 = .ok (.dup, 1) := by decide +kernel
theorem dX9_init_58 : decode cX9_init 58 = .ok (.invokespecial 42, 3) := by decide +kernel
theorem dX9_init_61 : decode cX9_init 61 = .ok (.putfield 43, 3) := by decide +kernel
theorem dX9_init_64 : decode cX9_init 64 = .ok (.aload_n 0, 1) := by decide +kernel
theorem dX9_init_65 : decode cX9_init 65 = .ok (.new 47, 3) := by decide +kernel
theorem dX9_init_68 : decode cX9_init 68 = .ok (.dup, 1) := by decide +kernel
theorem dX9_init_69 : decode cX9_init 69 = .ok (.invokespecial 49, 3) := by decide +kernel
theorem dX9_init_72 : decode cX9_init 72 = .ok (.putfield 50, 3) := by decide +kernel
theorem dX9_init_75 : decode cX9_init 75 = .ok (.aload_n 0, 1) := by decide +kernel
theorem dX9_init_76 : decode cX9_init 76 = .ok (.iconst 0, 1) := by decide +kernel
theorem dX9_init_77 : decode cX9_init 77 = .ok (.putfield 54, 3) := by decide +kernel
theorem dX9_init_80 : decode cX9_init 80 = .ok (.return_, 1) := by decide +kernel
theorem dX9_put_0 : decode cX9_put 0 = .ok (.lload_n 1, 1) := by decide +kernel
theorem dX9_put_1 : decode cX9_put 1 = .ok (.lconst 0, 1) := by decide +kernel
theorem dX9_put_2 : decode cX9_put 2 = .ok (.lcmp, 1) := by decide +kernel
theorem dX9_put_3 : decode cX9_put 3 = .ok (.ifCond .lt 11, 3) := by decide +kernel
theorem dX9_put_6 : decode cX9_put 6 = .ok (.lload_n 1, 1) := by decide +kernel
theorem dX9_put_7 : decode cX9_put 7 = .ok (.ldc2_w 57, 3) := by decide +kernel
theorem dX9_put_10 : decode cX9_put 10 = .ok (.lcmp, 1) := by decide +kernel
theorem dX9_put_11 : decode cX9_put 11 = .ok (.ifCond .le 9, 3) := by decide +kernel
theorem dX9_put_14 : decode cX9_put 14 = .ok (.aload_n 0, 1) := by decide +kernel
theorem dX9_put_15 : decode cX9_put 15 = .ok (.iconst (-1), 1) := by decide +kernel
theorem dX9_put_16 : decode cX9_put 16 = .ok (.invokevirtual 59, 3) := by decide +kernel
theorem dX9_put_19 : decode cX9_put 19 = .ok (.ireturn, 1) := by decide +kernel
theorem dX9_put_20 : decode cX9_put 20 = .ok (.aload_n 0, 1) := by decide +kernel
theorem dX9_put_21 : decode cX9_put 21 = .ok (.getfield 27, 3) := by decide +kernel
theorem dX9_put_24 : decode cX9_put 24 = .ok (.aload_n 0, 1) := by decide +kernel
theorem dX9_put_25 : decode cX9_put 25 = .ok (.getfield 23, 3) := by decide +kernel
theorem dX9_put_28 : decode cX9_put 28 = .ok (.arraylength, 1) := by decide +kernel
theorem dX9_put_29 : decode cX9_put 29 = .ok (.if_icmp .lt 10, 3) := by decide +kernel
theorem dX9_put_32 : decode cX9_put 32 = .ok (.aload_n 0, 1) := by decide +kernel
theorem dX9_put_33 : decode cX9_put 33 = .ok (.bipush (-3), 2) := by decide +kernel
theorem dX9_put_35 : decode cX9_put 35 = .ok (.invokevirtual 59, 3) := by decide +kernel
theorem dX9_put_38 : decode cX9_put 38 = .ok (.ireturn, 1) := by decide +kernel
theorem dX9_put_39 : decode cX9_put 39 = .ok (.aload_n 0, 1) := by decide +kernel
theorem dX9_put_40 : decode cX9_put 40 = .ok (.getfield 23, 3) := by decide +kernel
theorem dX9_put_43 : decode cX9_put 43 = .ok (.aload_n 0, 1) := by decide +kernel
theorem dX9_put_44 : decode cX9_put 44 = .ok (.getfield 27, 3) := by decide +kernel
theorem dX9_put_47 : decode cX9_put 47 = .ok (.lload_n 1, 1) := by decide +kernel
theorem dX9_put_48 : decode cX9_put 48 = .ok (.lastore, 1) := by decide +kernel
theorem dX9_put_49 : decode cX9_put 49 = .ok (.aload_n 0, 1) := by decide +kernel
theorem dX9_put_50 : decode cX9_put 50 = .ok (.dup, 1) := by decide +kernel
theorem dX9_put_51 : decode cX9_put 51 = .ok (.getfield 27, 3) := by decide +kernel
theorem dX9_put_54 : decode cX9_put 54 = .ok (.iconst 1, 1) := by decide +kernel
theorem dX9_put_55 : decode cX9_put 55 = .ok (.iadd, 1) := by decide +kernel
theorem dX9_put_56 : decode cX9_put 56 = .ok (.putfield 27, 3) := by decide +kernel
theorem dX9_put_59 : decode cX9_put 59 = .ok (.aload_n 0, 1) := by decide +kernel
theorem dX9_put_60 : decode cX9_put 60 = .ok (.aload_n 0, 1) := by decide +kernel
theorem dX9_put_61 : decode cX9_put 61 = .ok (.getfield 27, 3) := by decide +kernel
theorem dX9_put_64 : decode cX9_put 64 = .ok (.invokevirtual 63, 3) := by decide +kernel
theorem dX9_put_67 : decode cX9_put 67 = .ok (.ireturn, 1) := by decide +kernel
theorem dX9_draw_0 : decode cX9_draw 0 = .ok (.iload_n 1, 1) := by decide +kernel
theorem dX9_draw_1 : decode cX9_draw 1 = .ok (.iconst 1, 1) := by decide +kernel
theorem dX9_draw_2 : decode cX9_draw 2 = .ok (.if_icmp .lt 20, 3) := by decide +kernel
theorem dX9_draw_5 : decode cX9_draw 5 = .ok (.iload_n 1, 1) := by decide +kernel
theorem dX9_draw_6 : decode cX9_draw 6 = .ok (.sipush 300, 3) := by decide +kernel
theorem dX9_draw_9 : decode cX9_draw 9 = .ok (.if_icmp .gt 13, 3) := by decide +kernel
theorem dX9_draw_12 : decode cX9_draw 12 = .ok (.iload_n 3, 1) := by decide +kernel
theorem dX9_draw_13 : decode cX9_draw 13 = .ok (.ifCond .lt 9, 3) := by decide +kernel
theorem dX9_draw_16 : decode cX9_draw 16 = .ok (.iload_n 3, 1) := by decide +kernel
theorem dX9_draw_17 : decode cX9_draw 17 = .ok (.ldc 66, 2) := by decide +kernel
theorem dX9_draw_19 : decode cX9_draw 19 = .ok (.if_icmp .le 9, 3) := by decide +kernel
theorem dX9_draw_22 : decode cX9_draw 22 = .ok (.aload_n 0, 1) := by decide +kernel
theorem dX9_draw_23 : decode cX9_draw 23 = .ok (.iconst (-1), 1) := by decide +kernel
theorem dX9_draw_24 : decode cX9_draw 24 = .ok (.invokevirtual 59, 3) := by decide +kernel
theorem dX9_draw_27 : decode cX9_draw 27 = .ok (.ireturn, 1) := by decide +kernel
theorem dX9_draw_28 : decode cX9_draw 28 = .ok (.iload_n 1, 1) := by decide +kernel
theorem dX9_draw_29 : decode cX9_draw 29 = .ok (.aload_n 0, 1) := by decide +kernel
theorem dX9_draw_30 : decode cX9_draw 30 = .ok (.getfield 23, 3) := by decide +kernel
theorem dX9_draw_33 : decode cX9_draw 33 = .ok (.arraylength, 1) := by decide +kernel
theorem dX9_draw_34 : decode cX9_draw 34 = .ok (.aload_n 0, 1) := by decide +kernel
theorem dX9_draw_35 : decode cX9_draw 35 = .ok (.getfield 27, 3) := by decide +kernel
theorem dX9_draw_38 : decode cX9_draw 38 = .ok (.isub, 1) := by decide +kernel
theorem dX9_draw_39 : decode cX9_draw 39 = .ok (.if_icmp .le 10, 3) := by decide +kernel
theorem dX9_draw_42 : decode cX9_draw 42 = .ok (.aload_n 0, 1) := by decide +kernel
theorem dX9_draw_43 : decode cX9_draw 43 = .ok (.bipush (-3), 2) := by decide +kernel
theorem dX9_draw_45 : decode cX9_draw 45 = .ok (.invokevirtual 59, 3) := by decide +kernel
theorem dX9_draw_48 : decode cX9_draw 48 = .ok (.ireturn, 1) := by decide +kernel
theorem dX9_draw_49 : decode cX9_draw 49 = .ok (.iload_n 2, 1) := by decide +kernel
theorem dX9_draw_50 : decode cX9_draw 50 = .ok (.i2l, 1) := by decide +kernel
theorem dX9_draw_51 : decode cX9_draw 51 = .ok (.lstore 4, 2) := by decide +kernel
theorem dX9_draw_53 : decode cX9_draw 53 = .ok (.aload_n 0, 1) := by decide +kernel
theorem dX9_draw_54 : decode cX9_draw 54 = .ok (.getfield 27, 3) := by decide +kernel
theorem dX9_draw_57 : decode cX9_draw 57 = .ok (.ifCond .le 17, 3) := by decide +kernel
theorem dX9_draw_60 : decode cX9_draw 60 = .ok (.aload_n 0, 1) := by decide +kernel
theorem dX9_draw_61 : decode cX9_draw 61 = .ok (.getfield 23, 3) := by decide +kernel
theorem dX9_draw_64 : decode cX9_draw 64 = .ok (.aload_n 0, 1) := by decide +kernel
theorem dX9_draw_65 : decode cX9_draw 65 = .ok (.getfield 27, 3) := by decide +kernel
theorem dX9_draw_68 : decode cX9_draw 68 = .ok (.iconst 1, 1) := by decide +kernel
theorem dX9_draw_69 : decode cX9_draw 69 = .ok (.isub, 1) := by decide +kernel
theorem dX9_draw_70 : decode cX9_draw 70 = .ok (.laload, 1) := by decide +kernel
theorem dX9_draw_71 : decode cX9_draw 71 = .ok (.goto 4, 3) := by decide +kernel
theorem dX9_draw_74 : decode cX9_draw 74 = .ok (.lconst 0, 1) := by decide +kernel
theorem dX9_draw_75 : decode cX9_draw 75 = .ok (.lstore 6, 2) := by decide +kernel
theorem dX9_draw_77 : decode cX9_draw 77 = .ok (.iconst 0, 1) := by decide +kernel
theorem dX9_draw_78 : decode cX9_draw 78 = .ok (.istore 8, 2) := by decide +kernel
theorem dX9_draw_80 : decode cX9_draw 80 = .ok (.iload 8, 2) := by decide +kernel
theorem dX9_draw_82 : decode cX9_draw 82 = .ok (.iload_n 1, 1) := by decide +kernel
theorem dX9_draw_83 : decode cX9_draw 83 = .ok (.if_icmp .ge 73, 3) := by decide +kernel
theorem dX9_draw_86 : decode cX9_draw 86 = .ok (.aload_n 0, 1) := by decide +kernel
theorem dX9_draw_87 : decode cX9_draw 87 = .ok (.getfield 27, 3) := by decide +kernel
theorem dX9_draw_90 : decode cX9_draw 90 = .ok (.aload_n 0, 1) := by decide +kernel
theorem dX9_draw_91 : decode cX9_draw 91 = .ok (.getfield 23, 3) := by decide +kernel
theorem dX9_draw_94 : decode cX9_draw 94 = .ok (.arraylength, 1) := by decide +kernel
theorem dX9_draw_95 : decode cX9_draw 95 = .ok (.if_icmp .ge 61, 3) := by decide +kernel
theorem dX9_draw_98 : decode cX9_draw 98 = .ok (.lload 4, 2) := by decide +kernel
theorem dX9_draw_100 : decode cX9_draw 100 = .ok (.ldc2_w 67, 3) := by decide +kernel
theorem dX9_draw_103 : decode cX9_draw 103 = .ok (.lmul, 1) := by decide +kernel
theorem dX9_draw_104 : decode cX9_draw 104 = .ok (.ldc2_w 69, 3) := by decide +kernel
theorem dX9_draw_107 : decode cX9_draw 107 = .ok (.ladd, 1) := by decide +kernel
theorem dX9_draw_108 : decode cX9_draw 108 = .ok (.ldc2_w 71, 3) := by decide +kernel
theorem dX9_draw_111 : decode cX9_draw 111 = .ok (.land, 1) := by decide +kernel
theorem dX9_draw_112 : decode cX9_draw 112 = .ok (.lstore 4, 2) := by decide +kernel
theorem dX9_draw_114 : decode cX9_draw 114 = .ok (.lload 6, 2) := by decide +kernel
theorem dX9_draw_116 : decode cX9_draw 116 = .ok (.lload 4, 2) := by decide +kernel
theorem dX9_draw_118 : decode cX9_draw 118 = .ok (.bipush 8, 2) := by decide +kernel
theorem dX9_draw_120 : decode cX9_draw 120 = .ok (.lshr, 1) := by decide +kernel
theorem dX9_draw_121 : decode cX9_draw 121 = .ok (.iload_n 3, 1) := by decide +kernel
theorem dX9_draw_122 : decode cX9_draw 122 = .ok (.iconst 1, 1) := by decide +kernel
theorem dX9_draw_123 : decode cX9_draw 123 = .ok (.iadd, 1) := by decide +kernel
theorem dX9_draw_124 : decode cX9_draw 124 = .ok (.i2l, 1) := by decide +kernel
theorem dX9_draw_125 : decode cX9_draw 125 = .ok (.lrem, 1) := by decide +kernel
theorem dX9_draw_126 : decode cX9_draw 126 = .ok (.ladd, 1) := by decide +kernel
theorem dX9_draw_127 : decode cX9_draw 127 = .ok (.lstore 6, 2) := by decide +kernel
theorem dX9_draw_129 : decode cX9_draw 129 = .ok (.aload_n 0, 1) := by decide +kernel
theorem dX9_draw_130 : decode cX9_draw 130 = .ok (.getfield 23, 3) := by decide +kernel
theorem dX9_draw_133 : decode cX9_draw 133 = .ok (.aload_n 0, 1) := by decide +kernel
theorem dX9_draw_134 : decode cX9_draw 134 = .ok (.getfield 27, 3) := by decide +kernel
theorem dX9_draw_137 : decode cX9_draw 137 = .ok (.lload 6, 2) := by decide +kernel
theorem dX9_draw_139 : decode cX9_draw 139 = .ok (.lastore, 1) := by decide +kernel
theorem dX9_draw_140 : decode cX9_draw 140 = .ok (.aload_n 0, 1) := by decide +kernel
theorem dX9_draw_141 : decode cX9_draw 141 = .ok (.dup, 1) := by decide +kernel
theorem dX9_draw_142 : decode cX9_draw 142 = .ok (.getfield 27, 3) := by decide +kernel
theorem dX9_draw_145 : decode cX9_draw 145 = .ok (.iconst 1, 1) := by decide +kernel
theorem dX9_draw_146 : decode cX9_draw 146 = .ok (.iadd, 1) := by decide +kernel
theorem dX9_draw_147 : decode cX9_draw 147 = .ok (.putfield 27, 3) := by decide +kernel
theorem dX9_draw_150 : decode cX9_draw 150 = .ok (.iinc 8 1, 3) := by decide +kernel
theorem dX9_draw_153 : decode cX9_draw 153 = .ok (.goto (-73), 3) := by decide +kernel
theorem dX9_draw_156 : decode cX9_draw 156 = .ok (.aload_n 0, 1) := by decide +kernel
theorem dX9_draw_157 : decode cX9_draw 157 = .ok (.aload_n 0, 1) := by decide +kernel
theorem dX9_draw_158 : decode cX9_draw 158 = .ok (.getfield 27, 3) := by decide +kernel
theorem dX9_draw_161 : decode cX9_draw 161 = .ok (.invokevirtual 63, 3) := by decide +kernel
theorem dX9_draw_164 : decode cX9_draw 164 = .ok (.ireturn, 1) := by decide +kernel
theorem dX9_drop_0 : decode cX9_drop 0 = .ok (.aload_n 0, 1) := by decide +kernel
theorem dX9_drop_1 : decode cX9_drop 1 = .ok (.getfield 27, 3) := by decide +kernel
theorem dX9_drop_4 : decode cX9_drop 4 = .ok (.istore_n 1, 1) := by decide +kernel
theorem dX9_drop_5 : decode cX9_drop 5 = .ok (.aload_n 0, 1) := by decide +kernel
theorem dX9_drop_6 : decode cX9_drop 6 = .ok (.iconst 0, 1) := by decide +kernel
theorem dX9_drop_7 : decode cX9_drop 7 = .ok (.putfield 27, 3) := by decide +kernel
theorem dX9_drop_10 : decode cX9_drop 10 = .ok (.aload_n 0, 1) := by decide +kernel
theorem dX9_drop_11 : decode cX9_drop 11 = .ok (.iload_n 1, 1) := by decide +kernel
theorem dX9_drop_12 : decode cX9_drop 12 = .ok (.invokevirtual 63, 3) := by decide +kernel
theorem dX9_drop_15 : decode cX9_drop 15 = .ok (.ireturn, 1) := by decide +kernel
theorem dX9_curve_0 : decode cX9_curve 0 = .ok (.iload_n 1, 1) := by decide +kernel
theorem dX9_curve_1 : decode cX9_curve 1 = .ok (.iconst 1, 1) := by decide +kernel
theorem dX9_curve_2 : decode cX9_curve 2 = .ok (.if_icmp .lt 19, 3) := by decide +kernel
theorem dX9_curve_5 : decode cX9_curve 5 = .ok (.iload_n 1, 1) := by decide +kernel
theorem dX9_curve_6 : decode cX9_curve 6 = .ok (.bipush 60, 2) := by decide +kernel
theorem dX9_curve_8 : decode cX9_curve 8 = .ok (.if_icmp .gt 13, 3) := by decide +kernel
theorem dX9_curve_11 : decode cX9_curve 11 = .ok (.iload_n 2, 1) := by decide +kernel
theorem dX9_curve_12 : decode cX9_curve 12 = .ok (.ifCond .lt 9, 3) := by decide +kernel
theorem dX9_curve_15 : decode cX9_curve 15 = .ok (.iload_n 2, 1) := by decide +kernel
theorem dX9_curve_16 : decode cX9_curve 16 = .ok (.ldc 73, 2) := by decide +kernel
theorem dX9_curve_18 : decode cX9_curve 18 = .ok (.if_icmp .le 9, 3) := by decide +kernel
theorem dX9_curve_21 : decode cX9_curve 21 = .ok (.aload_n 0, 1) := by decide +kernel
theorem dX9_curve_22 : decode cX9_curve 22 = .ok (.iconst (-1), 1) := by decide +kernel
theorem dX9_curve_23 : decode cX9_curve 23 = .ok (.invokevirtual 59, 3) := by decide +kernel
theorem dX9_curve_26 : decode cX9_curve 26 = .ok (.ireturn, 1) := by decide +kernel
theorem dX9_curve_27 : decode cX9_curve 27 = .ok (.aload_n 0, 1) := by decide +kernel
theorem dX9_curve_28 : decode cX9_curve 28 = .ok (.iload_n 1, 1) := by decide +kernel
theorem dX9_curve_29 : decode cX9_curve 29 = .ok (.iload_n 2, 1) := by decide +kernel
theorem dX9_curve_30 : decode cX9_curve 30 = .ok (.invokevirtual 74, 3) := by decide +kernel
theorem dX9_curve_33 : decode cX9_curve 33 = .ok (.ifCond .ne 10, 3) := by decide +kernel
theorem dX9_curve_36 : decode cX9_curve 36 = .ok (.aload_n 0, 1) := by decide +kernel
theorem dX9_curve_37 : decode cX9_curve 37 = .ok (.bipush (-2), 2) := by decide +kernel
theorem dX9_curve_39 : decode cX9_curve 39 = .ok (.invokevirtual 59, 3) := by decide +kernel
theorem dX9_curve_42 : decode cX9_curve 42 = .ok (.ireturn, 1) := by decide +kernel
theorem dX9_curve_43 : decode cX9_curve 43 = .ok (.aload_n 0, 1) := by decide +kernel
theorem dX9_curve_44 : decode cX9_curve 44 = .ok (.getfield 15, 3) := by decide +kernel
theorem dX9_curve_47 : decode cX9_curve 47 = .ok (.aload_n 0, 1) := by decide +kernel
theorem dX9_curve_48 : decode cX9_curve 48 = .ok (.getfield 11, 3) := by decide +kernel
theorem dX9_curve_51 : decode cX9_curve 51 = .ok (.arraylength, 1) := by decide +kernel
theorem dX9_curve_52 : decode cX9_curve 52 = .ok (.if_icmp .lt 10, 3) := by decide +kernel
theorem dX9_curve_55 : decode cX9_curve 55 = .ok (.aload_n 0, 1) := by decide +kernel
theorem dX9_curve_56 : decode cX9_curve 56 = .ok (.bipush (-3), 2) := by decide +kernel
theorem dX9_curve_58 : decode cX9_curve 58 = .ok (.invokevirtual 59, 3) := by decide +kernel
theorem dX9_curve_61 : decode cX9_curve 61 = .ok (.ireturn, 1) := by decide +kernel
theorem dX9_curve_62 : decode cX9_curve 62 = .ok (.aload_n 0, 1) := by decide +kernel
theorem dX9_curve_63 : decode cX9_curve 63 = .ok (.getfield 50, 3) := by decide +kernel
theorem dX9_curve_66 : decode cX9_curve 66 = .ok (.aload_n 0, 1) := by decide +kernel
theorem dX9_curve_67 : decode cX9_curve 67 = .ok (.getfield 23, 3) := by decide +kernel
theorem dX9_curve_70 : decode cX9_curve 70 = .ok (.aload_n 0, 1) := by decide +kernel
theorem dX9_curve_71 : decode cX9_curve 71 = .ok (.getfield 27, 3) := by decide +kernel
theorem dX9_curve_74 : decode cX9_curve 74 = .ok (.iload_n 1, 1) := by decide +kernel
theorem dX9_curve_75 : decode cX9_curve 75 = .ok (.iload_n 2, 1) := by decide +kernel
theorem dX9_curve_76 : decode cX9_curve 76 = .ok (.invokevirtual 78, 3) := by decide +kernel
theorem dX9_curve_79 : decode cX9_curve 79 = .ok (.astore_n 3, 1) := by decide +kernel
theorem dX9_curve_80 : decode cX9_curve 80 = .ok (.aload_n 3, 1) := by decide +kernel
theorem dX9_curve_81 : decode cX9_curve 81 = .ok (.ifnull 8, 3) := by decide +kernel
theorem dX9_curve_84 : decode cX9_curve 84 = .ok (.aload_n 0, 1) := by decide +kernel
theorem dX9_curve_85 : decode cX9_curve 85 = .ok (.iconst 0, 1) := by decide +kernel
theorem dX9_curve_86 : decode cX9_curve 86 = .ok (.putfield 27, 3) := by decide +kernel
theorem dX9_curve_89 : decode cX9_curve 89 = .ok (.aload_n 0, 1) := by decide +kernel
theorem dX9_curve_90 : decode cX9_curve 90 = .ok (.aload_n 3, 1) := by decide +kernel
theorem dX9_curve_91 : decode cX9_curve 91 = .ok (.invokevirtual 82, 3) := by decide +kernel
theorem dX9_curve_94 : decode cX9_curve 94 = .ok (.ireturn, 1) := by decide +kernel
theorem dX9_ray_0 : decode cX9_ray 0 = .ok (.iload_n 1, 1) := by decide +kernel
theorem dX9_ray_1 : decode cX9_ray 1 = .ok (.ifCond .lt 9, 3) := by decide +kernel
theorem dX9_ray_4 : decode cX9_ray 4 = .ok (.iload_n 1, 1) := by decide +kernel
theorem dX9_ray_5 : decode cX9_ray 5 = .ok (.ldc 73, 2) := by decide +kernel
theorem dX9_ray_7 : decode cX9_ray 7 = .ok (.if_icmp .le 9, 3) := by decide +kernel
theorem dX9_ray_10 : decode cX9_ray 10 = .ok (.aload_n 0, 1) := by decide +kernel
theorem dX9_ray_11 : decode cX9_ray 11 = .ok (.iconst (-1), 1) := by decide +kernel
theorem dX9_ray_12 : decode cX9_ray 12 = .ok (.invokevirtual 59, 3) := by decide +kernel
theorem dX9_ray_15 : decode cX9_ray 15 = .ok (.ireturn, 1) := by decide +kernel
theorem dX9_ray_16 : decode cX9_ray 16 = .ok (.aload_n 0, 1) := by decide +kernel
theorem dX9_ray_17 : decode cX9_ray 17 = .ok (.getfield 15, 3) := by decide +kernel
theorem dX9_ray_20 : decode cX9_ray 20 = .ok (.aload_n 0, 1) := by decide +kernel
theorem dX9_ray_21 : decode cX9_ray 21 = .ok (.getfield 11, 3) := by decide +kernel
theorem dX9_ray_24 : decode cX9_ray 24 = .ok (.arraylength, 1) := by decide +kernel
theorem dX9_ray_25 : decode cX9_ray 25 = .ok (.if_icmp .lt 10, 3) := by decide +kernel
theorem dX9_ray_28 : decode cX9_ray 28 = .ok (.aload_n 0, 1) := by decide +kernel
theorem dX9_ray_29 : decode cX9_ray 29 = .ok (.bipush (-3), 2) := by decide +kernel
theorem dX9_ray_31 : decode cX9_ray 31 = .ok (.invokevirtual 59, 3) := by decide +kernel
theorem dX9_ray_34 : decode cX9_ray 34 = .ok (.ireturn, 1) := by decide +kernel
theorem dX9_ray_35 : decode cX9_ray 35 = .ok (.aload_n 0, 1) := by decide +kernel
theorem dX9_ray_36 : decode cX9_ray 36 = .ok (.aload_n 0, 1) := by decide +kernel
theorem dX9_ray_37 : decode cX9_ray 37 = .ok (.getfield 50, 3) := by decide +kernel
theorem dX9_ray_40 : decode cX9_ray 40 = .ok (.iload_n 1, 1) := by decide +kernel
theorem dX9_ray_41 : decode cX9_ray 41 = .ok (.invokevirtual 86, 3) := by decide +kernel
theorem dX9_ray_44 : decode cX9_ray 44 = .ok (.invokevirtual 82, 3) := by decide +kernel
theorem dX9_ray_47 : decode cX9_ray 47 = .ok (.ireturn, 1) := by decide +kernel
theorem dX9_of_0 : decode cX9_of 0 = .ok (.aload_n 0, 1) := by decide +kernel
theorem dX9_of_1 : decode cX9_of 1 = .ok (.iload_n 2, 1) := by decide +kernel
theorem dX9_of_2 : decode cX9_of 2 = .ok (.invokevirtual 90, 3) := by decide +kernel
theorem dX9_of_5 : decode cX9_of 5 = .ok (.astore 4, 2) := by decide +kernel
theorem dX9_of_7 : decode cX9_of 7 = .ok (.aload_n 0, 1) := by decide +kernel
theorem dX9_of_8 : decode cX9_of 8 = .ok (.iload_n 3, 1) := by decide +kernel
theorem dX9_of_9 : decode cX9_of 9 = .ok (.invokevirtual 90, 3) := by decide +kernel
theorem dX9_of_12 : decode cX9_of 12 = .ok (.astore 5, 2) := by decide +kernel
theorem dX9_of_14 : decode cX9_of 14 = .ok (.iload_n 1, 1) := by decide +kernel
theorem dX9_of_15 : decode cX9_of 15 = .ok (.ifCond .lt 18, 3) := by decide +kernel
theorem dX9_of_18 : decode cX9_of 18 = .ok (.iload_n 1, 1) := by decide +kernel
theorem dX9_of_19 : decode cX9_of 19 = .ok (.iconst 5, 1) := by decide +kernel
theorem dX9_of_20 : decode cX9_of 20 = .ok (.if_icmp .gt 13, 3) := by decide +kernel
theorem dX9_of_23 : decode cX9_of 23 = .ok (.aload 4, 2) := by decide +kernel
theorem dX9_of_25 : decode cX9_of 25 = .ok (.ifnull 8, 3) := by decide +kernel
theorem dX9_of_28 : decode cX9_of 28 = .ok (.aload 5, 2) := by decide +kernel
theorem dX9_of_30 : decode cX9_of 30 = .ok (.ifnonnull 9, 3) := by decide +kernel
theorem dX9_of_33 : decode cX9_of 33 = .ok (.aload_n 0, 1) := by decide +kernel
theorem dX9_of_34 : decode cX9_of 34 = .ok (.iconst (-1), 1) := by decide +kernel
theorem dX9_of_35 : decode cX9_of 35 = .ok (.invokevirtual 59, 3) := by decide +kernel
theorem dX9_of_38 : decode cX9_of 38 = .ok (.ireturn, 1) := by decide +kernel
theorem dX9_of_39 : decode cX9_of 39 = .ok (.aload_n 0, 1) := by decide +kernel
theorem dX9_of_40 : decode cX9_of 40 = .ok (.getfield 15, 3) := by decide +kernel
theorem dX9_of_43 : decode cX9_of 43 = .ok (.aload_n 0, 1) := by decide +kernel
theorem dX9_of_44 : decode cX9_of 44 = .ok (.getfield 11, 3) := by decide +kernel
theorem dX9_of_47 : decode cX9_of 47 = .ok (.arraylength, 1) := by decide +kernel
theorem dX9_of_48 : decode cX9_of 48 = .ok (.if_icmp .lt 10, 3) := by decide +kernel
theorem dX9_of_51 : decode cX9_of 51 = .ok (.aload_n 0, 1) := by decide +kernel
theorem dX9_of_52 : decode cX9_of 52 = .ok (.bipush (-3), 2) := by decide +kernel
theorem dX9_of_54 : decode cX9_of 54 = .ok (.invokevirtual 59, 3) := by decide +kernel
theorem dX9_of_57 : decode cX9_of 57 = .ok (.ireturn, 1) := by decide +kernel
theorem dX9_of_58 : decode cX9_of 58 = .ok (.aload 4, 2) := by decide +kernel
theorem dX9_of_60 : decode cX9_of 60 = .ok (.aload 5, 2) := by decide +kernel
theorem dX9_of_62 : decode cX9_of 62 = .ok (.invokestatic 93, 3) := by decide +kernel
theorem dX9_of_65 : decode cX9_of 65 = .ok (.istore 6, 2) := by decide +kernel
theorem dX9_of_67 : decode cX9_of 67 = .ok (.iload 6, 2) := by decide +kernel
theorem dX9_of_69 : decode cX9_of 69 = .ok (.iconst (-1), 1) := by decide +kernel
theorem dX9_of_70 : decode cX9_of 70 = .ok (.if_icmp .ne 10, 3) := by decide +kernel
theorem dX9_of_73 : decode cX9_of 73 = .ok (.aload_n 0, 1) := by decide +kernel
theorem dX9_of_74 : decode cX9_of 74 = .ok (.bipush (-4), 2) := by decide +kernel
theorem dX9_of_76 : decode cX9_of 76 = .ok (.invokevirtual 59, 3) := by decide +kernel
theorem dX9_of_79 : decode cX9_of 79 = .ok (.ireturn, 1) := by decide +kernel
theorem dX9_of_80 : decode cX9_of 80 = .ok (.iload_n 1, 1) := by decide +kernel
theorem dX9_of_81 : decode cX9_of 81 = .ok (.iconst 5, 1) := by decide +kernel
theorem dX9_of_82 : decode cX9_of 82 = .ok (.if_icmp .ne 22, 3) := by decide +kernel
theorem dX9_of_85 : decode cX9_of 85 = .ok (.aload 4, 2) := by decide +kernel
theorem dX9_of_87 : decode cX9_of 87 = .ok (.aload 5, 2) := by decide +kernel
theorem dX9_of_89 : decode cX9_of 89 = .ok (.iload 6, 2) := by decide +kernel
theorem dX9_of_91 : decode cX9_of 91 = .ok (.invokestatic 99, 3) := by decide +kernel
theorem dX9_of_94 : decode cX9_of 94 = .ok (.ifCond .eq 10, 3) := by decide +kernel
theorem dX9_of_97 : decode cX9_of 97 = .ok (.aload_n 0, 1) := by decide +kernel
theorem dX9_of_98 : decode cX9_of 98 = .ok (.bipush (-5), 2) := by decide +kernel
theorem dX9_of_100 : decode cX9_of 100 = .ok (.invokevirtual 59, 3) := by decide +kernel
theorem dX9_of_103 : decode cX9_of 103 = .ok (.ireturn, 1) := by decide +kernel
theorem dX9_of_104 : decode cX9_of 104 = .ok (.aload_n 0, 1) := by decide +kernel
theorem dX9_of_105 : decode cX9_of 105 = .ok (.aload_n 0, 1) := by decide +kernel
theorem dX9_of_106 : decode cX9_of 106 = .ok (.getfield 50, 3) := by decide +kernel
theorem dX9_of_109 : decode cX9_of 109 = .ok (.iload_n 1, 1) := by decide +kernel
theorem dX9_of_110 : decode cX9_of 110 = .ok (.aload 4, 2) := by decide +kernel
theorem dX9_of_112 : decode cX9_of 112 = .ok (.aload 5, 2) := by decide +kernel
theorem dX9_of_114 : decode cX9_of 114 = .ok (.iload 6, 2) := by decide +kernel
theorem dX9_of_116 : decode cX9_of 116 = .ok (.invokevirtual 103, 3) := by decide +kernel
theorem dX9_of_119 : decode cX9_of 119 = .ok (.invokevirtual 82, 3) := by decide +kernel
theorem dX9_of_122 : decode cX9_of 122 = .ok (.ireturn, 1) := by decide +kernel
theorem dX9_times_0 : decode cX9_times 0 = .ok (.aload_n 0, 1) := by decide +kernel
theorem dX9_times_1 : decode cX9_times 1 = .ok (.iload_n 1, 1) := by decide +kernel
theorem dX9_times_2 : decode cX9_times 2 = .ok (.invokevirtual 90, 3) := by decide +kernel
theorem dX9_times_5 : decode cX9_times 5 = .ok (.astore_n 3, 1) := by decide +kernel
theorem dX9_times_6 : decode cX9_times 6 = .ok (.aload_n 3, 1) := by decide +kernel
theorem dX9_times_7 : decode cX9_times 7 = .ok (.ifnull 14, 3) := by decide +kernel
theorem dX9_times_10 : decode cX9_times 10 = .ok (.iload_n 2, 1) := by decide +kernel
theorem dX9_times_11 : decode cX9_times 11 = .ok (.ifCond .lt 10, 3) := by decide +kernel
theorem dX9_times_14 : decode cX9_times 14 = .ok (.iload_n 2, 1) := by decide +kernel
theorem dX9_times_15 : decode cX9_times 15 = .ok (.sipush 1000, 3) := by decide +kernel
theorem dX9_times_18 : decode cX9_times 18 = .ok (.if_icmp .le 9, 3) := by decide +kernel
theorem dX9_times_21 : decode cX9_times 21 = .ok (.aload_n 0, 1) := by decide +kernel
theorem dX9_times_22 : decode cX9_times 22 = .ok (.iconst (-1), 1) := by decide +kernel
theorem dX9_times_23 : decode cX9_times 23 = .ok (.invokevirtual 59, 3) := by decide +kernel
theorem dX9_times_26 : decode cX9_times 26 = .ok (.ireturn, 1) := by decide +kernel
theorem dX9_times_27 : decode cX9_times 27 = .ok (.aload_n 0, 1) := by decide +kernel
theorem dX9_times_28 : decode cX9_times 28 = .ok (.getfield 15, 3) := by decide +kernel
theorem dX9_times_31 : decode cX9_times 31 = .ok (.aload_n 0, 1) := by decide +kernel
theorem dX9_times_32 : decode cX9_times 32 = .ok (.getfield 11, 3) := by decide +kernel
theorem dX9_times_35 : decode cX9_times 35 = .ok (.arraylength, 1) := by decide +kernel
theorem dX9_times_36 : decode cX9_times 36 = .ok (.if_icmp .lt 10, 3) := by decide +kernel
theorem dX9_times_39 : decode cX9_times 39 = .ok (.aload_n 0, 1) := by decide +kernel
theorem dX9_times_40 : decode cX9_times 40 = .ok (.bipush (-3), 2) := by decide +kernel
theorem dX9_times_42 : decode cX9_times 42 = .ok (.invokevirtual 59, 3) := by decide +kernel
theorem dX9_times_45 : decode cX9_times 45 = .ok (.ireturn, 1) := by decide +kernel
theorem dX9_times_46 : decode cX9_times 46 = .ok (.aload_n 0, 1) := by decide +kernel
theorem dX9_times_47 : decode cX9_times 47 = .ok (.aload_n 0, 1) := by decide +kernel
theorem dX9_times_48 : decode cX9_times 48 = .ok (.getfield 50, 3) := by decide +kernel
theorem dX9_times_51 : decode cX9_times 51 = .ok (.aload_n 3, 1) := by decide +kernel
theorem dX9_times_52 : decode cX9_times 52 = .ok (.iload_n 2, 1) := by decide +kernel
theorem dX9_times_53 : decode cX9_times 53 = .ok (.invokevirtual 107, 3) := by decide +kernel
theorem dX9_times_56 : decode cX9_times 56 = .ok (.invokevirtual 82, 3) := by decide +kernel
theorem dX9_times_59 : decode cX9_times 59 = .ok (.ireturn, 1) := by decide +kernel
theorem dX9_shift_0 : decode cX9_shift 0 = .ok (.aload_n 0, 1) := by decide +kernel
theorem dX9_shift_1 : decode cX9_shift 1 = .ok (.iload_n 1, 1) := by decide +kernel
theorem dX9_shift_2 : decode cX9_shift 2 = .ok (.invokevirtual 90, 3) := by decide +kernel
theorem dX9_shift_5 : decode cX9_shift 5 = .ok (.astore_n 3, 1) := by decide +kernel
theorem dX9_shift_6 : decode cX9_shift 6 = .ok (.aload_n 3, 1) := by decide +kernel
theorem dX9_shift_7 : decode cX9_shift 7 = .ok (.ifnull 14, 3) := by decide +kernel
theorem dX9_shift_10 : decode cX9_shift 10 = .ok (.iload_n 2, 1) := by decide +kernel
theorem dX9_shift_11 : decode cX9_shift 11 = .ok (.ifCond .lt 10, 3) := by decide +kernel
theorem dX9_shift_14 : decode cX9_shift 14 = .ok (.iload_n 2, 1) := by decide +kernel
theorem dX9_shift_15 : decode cX9_shift 15 = .ok (.sipush 200, 3) := by decide +kernel
theorem dX9_shift_18 : decode cX9_shift 18 = .ok (.if_icmp .le 9, 3) := by decide +kernel
theorem dX9_shift_21 : decode cX9_shift 21 = .ok (.aload_n 0, 1) := by decide +kernel
theorem dX9_shift_22 : decode cX9_shift 22 = .ok (.iconst (-1), 1) := by decide +kernel
theorem dX9_shift_23 : decode cX9_shift 23 = .ok (.invokevirtual 59, 3) := by decide +kernel
theorem dX9_shift_26 : decode cX9_shift 26 = .ok (.ireturn, 1) := by decide +kernel
theorem dX9_shift_27 : decode cX9_shift 27 = .ok (.aload_n 0, 1) := by decide +kernel
theorem dX9_shift_28 : decode cX9_shift 28 = .ok (.getfield 15, 3) := by decide +kernel
theorem dX9_shift_31 : decode cX9_shift 31 = .ok (.aload_n 0, 1) := by decide +kernel
theorem dX9_shift_32 : decode cX9_shift 32 = .ok (.getfield 11, 3) := by decide +kernel
theorem dX9_shift_35 : decode cX9_shift 35 = .ok (.arraylength, 1) := by decide +kernel
theorem dX9_shift_36 : decode cX9_shift 36 = .ok (.if_icmp .lt 10, 3) := by decide +kernel
theorem dX9_shift_39 : decode cX9_shift 39 = .ok (.aload_n 0, 1) := by decide +kernel
theorem dX9_shift_40 : decode cX9_shift 40 = .ok (.bipush (-3), 2) := by decide +kernel
theorem dX9_shift_42 : decode cX9_shift 42 = .ok (.invokevirtual 59, 3) := by decide +kernel
theorem dX9_shift_45 : decode cX9_shift 45 = .ok (.ireturn, 1) := by decide +kernel
theorem dX9_shift_46 : decode cX9_shift 46 = .ok (.aload_n 0, 1) := by decide +kernel
theorem dX9_shift_47 : decode cX9_shift 47 = .ok (.aload_n 0, 1) := by decide +kernel
theorem dX9_shift_48 : decode cX9_shift 48 = .ok (.getfield 50, 3) := by decide +kernel
theorem dX9_shift_51 : decode cX9_shift 51 = .ok (.aload_n 3, 1) := by decide +kernel
theorem dX9_shift_52 : decode cX9_shift 52 = .ok (.iload_n 2, 1) := by decide +kernel
theorem dX9_shift_53 : decode cX9_shift 53 = .ok (.invokevirtual 111, 3) := by decide +kernel
theorem dX9_shift_56 : decode cX9_shift 56 = .ok (.invokevirtual 82, 3) := by decide +kernel
theorem dX9_shift_59 : decode cX9_shift 59 = .ok (.ireturn, 1) := by decide +kernel
theorem dX9_undo_0 : decode cX9_undo 0 = .ok (.aload_n 0, 1) := by decide +kernel
theorem dX9_undo_1 : decode cX9_undo 1 = .ok (.getfield 19, 3) := by decide +kernel
theorem dX9_undo_4 : decode cX9_undo 4 = .ok (.ifCond .eq 23, 3) := by decide +kernel
theorem dX9_undo_7 : decode cX9_undo 7 = .ok (.aload_n 0, 1) := by decide +kernel
theorem dX9_undo_8 : decode cX9_undo 8 = .ok (.getfield 15, 3) := by decide +kernel
theorem dX9_undo_11 : decode cX9_undo 11 = .ok (.iconst 1, 1) := by decide +kernel
theorem dX9_undo_12 : decode cX9_undo 12 = .ok (.if_icmp .lt 15, 3) := by decide +kernel
theorem dX9_undo_15 : decode cX9_undo 15 = .ok (.aload_n 0, 1) := by decide +kernel
theorem dX9_undo_16 : decode cX9_undo 16 = .ok (.getfield 15, 3) := by decide +kernel
theorem dX9_undo_19 : decode cX9_undo 19 = .ok (.aload_n 0, 1) := by decide +kernel
theorem dX9_undo_20 : decode cX9_undo 20 = .ok (.getfield 11, 3) := by decide +kernel
theorem dX9_undo_23 : decode cX9_undo 23 = .ok (.arraylength, 1) := by decide +kernel
theorem dX9_undo_24 : decode cX9_undo 24 = .ok (.if_icmp .le 10, 3) := by decide +kernel
theorem dX9_undo_27 : decode cX9_undo 27 = .ok (.aload_n 0, 1) := by decide +kernel
theorem dX9_undo_28 : decode cX9_undo 28 = .ok (.bipush (-2), 2) := by decide +kernel
theorem dX9_undo_30 : decode cX9_undo 30 = .ok (.invokevirtual 59, 3) := by decide +kernel
theorem dX9_undo_33 : decode cX9_undo 33 = .ok (.ireturn, 1) := by decide +kernel
theorem dX9_undo_34 : decode cX9_undo 34 = .ok (.aload_n 0, 1) := by decide +kernel
theorem dX9_undo_35 : decode cX9_undo 35 = .ok (.dup, 1) := by decide +kernel
theorem dX9_undo_36 : decode cX9_undo 36 = .ok (.getfield 15, 3) := by decide +kernel
theorem dX9_undo_39 : decode cX9_undo 39 = .ok (.iconst 1, 1) := by decide +kernel
theorem dX9_undo_40 : decode cX9_undo 40 = .ok (.isub, 1) := by decide +kernel
theorem dX9_undo_41 : decode cX9_undo 41 = .ok (.putfield 15, 3) := by decide +kernel
theorem dX9_undo_44 : decode cX9_undo 44 = .ok (.aload_n 0, 1) := by decide +kernel
theorem dX9_undo_45 : decode cX9_undo 45 = .ok (.getfield 11, 3) := by decide +kernel
theorem dX9_undo_48 : decode cX9_undo 48 = .ok (.aload_n 0, 1) := by decide +kernel
theorem dX9_undo_49 : decode cX9_undo 49 = .ok (.getfield 15, 3) := by decide +kernel
theorem dX9_undo_52 : decode cX9_undo 52 = .ok (.aconst_null, 1) := by decide +kernel
theorem dX9_undo_53 : decode cX9_undo 53 = .ok (.aastore, 1) := by decide +kernel
theorem dX9_undo_54 : decode cX9_undo 54 = .ok (.aload_n 0, 1) := by decide +kernel
theorem dX9_undo_55 : decode cX9_undo 55 = .ok (.getfield 37, 3) := by decide +kernel
theorem dX9_undo_58 : decode cX9_undo 58 = .ok (.aload_n 0, 1) := by decide +kernel
theorem dX9_undo_59 : decode cX9_undo 59 = .ok (.getfield 15, 3) := by decide +kernel
theorem dX9_undo_62 : decode cX9_undo 62 = .ok (.if_icmp .ne 8, 3) := by decide +kernel
theorem dX9_undo_65 : decode cX9_undo 65 = .ok (.aload_n 0, 1) := by decide +kernel
theorem dX9_undo_66 : decode cX9_undo 66 = .ok (.iconst (-1), 1) := by decide +kernel
theorem dX9_undo_67 : decode cX9_undo 67 = .ok (.putfield 37, 3) := by decide +kernel
theorem dX9_undo_70 : decode cX9_undo 70 = .ok (.aload_n 0, 1) := by decide +kernel
theorem dX9_undo_71 : decode cX9_undo 71 = .ok (.iconst 0, 1) := by decide +kernel
theorem dX9_undo_72 : decode cX9_undo 72 = .ok (.putfield 19, 3) := by decide +kernel
theorem dX9_undo_75 : decode cX9_undo 75 = .ok (.aload_n 0, 1) := by decide +kernel
theorem dX9_undo_76 : decode cX9_undo 76 = .ok (.aload_n 0, 1) := by decide +kernel
theorem dX9_undo_77 : decode cX9_undo 77 = .ok (.getfield 15, 3) := by decide +kernel
theorem dX9_undo_80 : decode cX9_undo 80 = .ok (.invokevirtual 63, 3) := by decide +kernel
theorem dX9_undo_83 : decode cX9_undo 83 = .ok (.ireturn, 1) := by decide +kernel
theorem dX9_at_0 : decode cX9_at 0 = .ok (.aload_n 0, 1) := by decide +kernel
theorem dX9_at_1 : decode cX9_at 1 = .ok (.iload_n 1, 1) := by decide +kernel
theorem dX9_at_2 : decode cX9_at 2 = .ok (.invokevirtual 90, 3) := by decide +kernel
theorem dX9_at_5 : decode cX9_at 5 = .ok (.astore_n 3, 1) := by decide +kernel
theorem dX9_at_6 : decode cX9_at 6 = .ok (.aload_n 3, 1) := by decide +kernel
theorem dX9_at_7 : decode cX9_at 7 = .ok (.ifnull 13, 3) := by decide +kernel
theorem dX9_at_10 : decode cX9_at 10 = .ok (.iload_n 2, 1) := by decide +kernel
theorem dX9_at_11 : decode cX9_at 11 = .ok (.ifCond .lt 9, 3) := by decide +kernel
theorem dX9_at_14 : decode cX9_at 14 = .ok (.iload_n 2, 1) := by decide +kernel
theorem dX9_at_15 : decode cX9_at 15 = .ok (.ldc 73, 2) := by decide +kernel
theorem dX9_at_17 : decode cX9_at 17 = .ok (.if_icmp .le 9, 3) := by decide +kernel
theorem dX9_at_20 : decode cX9_at 20 = .ok (.aload_n 0, 1) := by decide +kernel
theorem dX9_at_21 : decode cX9_at 21 = .ok (.iconst (-1), 1) := by decide +kernel
theorem dX9_at_22 : decode cX9_at 22 = .ok (.invokevirtual 114, 3) := by decide +kernel
theorem dX9_at_25 : decode cX9_at 25 = .ok (.lreturn, 1) := by decide +kernel
theorem dX9_at_26 : decode cX9_at 26 = .ok (.aload_n 0, 1) := by decide +kernel
theorem dX9_at_27 : decode cX9_at 27 = .ok (.aload_n 3, 1) := by decide +kernel
theorem dX9_at_28 : decode cX9_at 28 = .ok (.iload_n 2, 1) := by decide +kernel
theorem dX9_at_29 : decode cX9_at 29 = .ok (.aload_n 0, 1) := by decide +kernel
theorem dX9_at_30 : decode cX9_at 30 = .ok (.getfield 43, 3) := by decide +kernel
theorem dX9_at_33 : decode cX9_at 33 = .ok (.invokevirtual 118, 3) := by decide +kernel
theorem dX9_at_36 : decode cX9_at 36 = .ok (.invokevirtual 122, 3) := by decide +kernel
theorem dX9_at_39 : decode cX9_at 39 = .ok (.lreturn, 1) := by decide +kernel
theorem dX9_about_0 : decode cX9_about 0 = .ok (.aload_n 0, 1) := by decide +kernel
theorem dX9_about_1 : decode cX9_about 1 = .ok (.iload_n 1, 1) := by decide +kernel
theorem dX9_about_2 : decode cX9_about 2 = .ok (.invokevirtual 90, 3) := by decide +kernel
theorem dX9_about_5 : decode cX9_about 5 = .ok (.astore_n 3, 1) := by decide +kernel
theorem dX9_about_6 : decode cX9_about 6 = .ok (.aload_n 3, 1) := by decide +kernel
theorem dX9_about_7 : decode cX9_about 7 = .ok (.ifnonnull 9, 3) := by decide +kernel
theorem dX9_about_10 : decode cX9_about 10 = .ok (.aload_n 0, 1) := by decide +kernel
theorem dX9_about_11 : decode cX9_about 11 = .ok (.iconst (-1), 1) := by decide +kernel
theorem dX9_about_12 : decode cX9_about 12 = .ok (.invokevirtual 59, 3) := by decide +kernel
theorem dX9_about_15 : decode cX9_about 15 = .ok (.ireturn, 1) := by decide +kernel
theorem dX9_about_16 : decode cX9_about 16 = .ok (.iload_n 2, 1) := by decide +kernel
theorem dX9_about_17 : decode cX9_about 17 = .ok (.tableswitch 88 0 4 #[35, 44, 53, 62, 71], 35) := by decide +kernel
theorem dX9_about_52 : decode cX9_about 52 = .ok (.aload_n 0, 1) := by decide +kernel
theorem dX9_about_53 : decode cX9_about 53 = .ok (.aload_n 3, 1) := by decide +kernel
theorem dX9_about_54 : decode cX9_about 54 = .ok (.getfield 126, 3) := by decide +kernel
theorem dX9_about_57 : decode cX9_about 57 = .ok (.invokevirtual 63, 3) := by decide +kernel
theorem dX9_about_60 : decode cX9_about 60 = .ok (.ireturn, 1) := by decide +kernel
theorem dX9_about_61 : decode cX9_about 61 = .ok (.aload_n 0, 1) := by decide +kernel
theorem dX9_about_62 : decode cX9_about 62 = .ok (.aload_n 3, 1) := by decide +kernel
theorem dX9_about_63 : decode cX9_about 63 = .ok (.getfield 129, 3) := by decide +kernel
theorem dX9_about_66 : decode cX9_about 66 = .ok (.invokevirtual 63, 3) := by decide +kernel
theorem dX9_about_69 : decode cX9_about 69 = .ok (.ireturn, 1) := by decide +kernel
theorem dX9_about_70 : decode cX9_about 70 = .ok (.aload_n 0, 1) := by decide +kernel
theorem dX9_about_71 : decode cX9_about 71 = .ok (.aload_n 3, 1) := by decide +kernel
theorem dX9_about_72 : decode cX9_about 72 = .ok (.getfield 132, 3) := by decide +kernel
theorem dX9_about_75 : decode cX9_about 75 = .ok (.invokevirtual 63, 3) := by decide +kernel
theorem dX9_about_78 : decode cX9_about 78 = .ok (.ireturn, 1) := by decide +kernel
theorem dX9_about_79 : decode cX9_about 79 = .ok (.aload_n 0, 1) := by decide +kernel
theorem dX9_about_80 : decode cX9_about 80 = .ok (.aload_n 3, 1) := by decide +kernel
theorem dX9_about_81 : decode cX9_about 81 = .ok (.invokevirtual 135, 3) := by decide +kernel
theorem dX9_about_84 : decode cX9_about 84 = .ok (.invokevirtual 63, 3) := by decide +kernel
theorem dX9_about_87 : decode cX9_about 87 = .ok (.ireturn, 1) := by decide +kernel
theorem dX9_about_88 : decode cX9_about 88 = .ok (.aload_n 0, 1) := by decide +kernel
theorem dX9_about_89 : decode cX9_about 89 = .ok (.aload_n 3, 1) := by decide +kernel
theorem dX9_about_90 : decode cX9_about 90 = .ok (.invokevirtual 139, 3) := by decide +kernel
theorem dX9_about_93 : decode cX9_about 93 = .ok (.ifCond .eq 7, 3) := by decide +kernel
theorem dX9_about_96 : decode cX9_about 96 = .ok (.iconst 1, 1) := by decide +kernel
theorem dX9_about_97 : decode cX9_about 97 = .ok (.goto 4, 3) := by decide +kernel
theorem dX9_about_100 : decode cX9_about 100 = .ok (.iconst 0, 1) := by decide +kernel
theorem dX9_about_101 : decode cX9_about 101 = .ok (.invokevirtual 63, 3) := by decide +kernel
theorem dX9_about_104 : decode cX9_about 104 = .ok (.ireturn, 1) := by decide +kernel
theorem dX9_about_105 : decode cX9_about 105 = .ok (.aload_n 0, 1) := by decide +kernel
theorem dX9_about_106 : decode cX9_about 106 = .ok (.iconst (-1), 1) := by decide +kernel
theorem dX9_about_107 : decode cX9_about 107 = .ok (.invokevirtual 59, 3) := by decide +kernel
theorem dX9_about_110 : decode cX9_about 110 = .ok (.ireturn, 1) := by decide +kernel
theorem dX9_rate_0 : decode cX9_rate 0 = .ok (.aload_n 0, 1) := by decide +kernel
theorem dX9_rate_1 : decode cX9_rate 1 = .ok (.iload_n 1, 1) := by decide +kernel
theorem dX9_rate_2 : decode cX9_rate 2 = .ok (.invokevirtual 90, 3) := by decide +kernel
theorem dX9_rate_5 : decode cX9_rate 5 = .ok (.astore_n 3, 1) := by decide +kernel
theorem dX9_rate_6 : decode cX9_rate 6 = .ok (.aload_n 3, 1) := by decide +kernel
theorem dX9_rate_7 : decode cX9_rate 7 = .ok (.ifnull 12, 3) := by decide +kernel
theorem dX9_rate_10 : decode cX9_rate 10 = .ok (.iload_n 2, 1) := by decide +kernel
theorem dX9_rate_11 : decode cX9_rate 11 = .ok (.ifCond .lt 8, 3) := by decide +kernel
theorem dX9_rate_14 : decode cX9_rate 14 = .ok (.iload_n 2, 1) := by decide +kernel
theorem dX9_rate_15 : decode cX9_rate 15 = .ok (.iconst 1, 1) := by decide +kernel
theorem dX9_rate_16 : decode cX9_rate 16 = .ok (.if_icmp .le 9, 3) := by decide +kernel
theorem dX9_rate_19 : decode cX9_rate 19 = .ok (.aload_n 0, 1) := by decide +kernel
theorem dX9_rate_20 : decode cX9_rate 20 = .ok (.iconst (-1), 1) := by decide +kernel
theorem dX9_rate_21 : decode cX9_rate 21 = .ok (.invokevirtual 59, 3) := by decide +kernel
theorem dX9_rate_24 : decode cX9_rate 24 = .ok (.ireturn, 1) := by decide +kernel
theorem dX9_rate_25 : decode cX9_rate 25 = .ok (.aload_n 3, 1) := by decide +kernel
theorem dX9_rate_26 : decode cX9_rate 26 = .ok (.invokevirtual 143, 3) := by decide +kernel
theorem dX9_rate_29 : decode cX9_rate 29 = .ok (.istore 4, 2) := by decide +kernel
theorem dX9_rate_31 : decode cX9_rate 31 = .ok (.iload_n 2, 1) := by decide +kernel
theorem dX9_rate_32 : decode cX9_rate 32 = .ok (.ifCond .ne 10, 3) := by decide +kernel
theorem dX9_rate_35 : decode cX9_rate 35 = .ok (.aload_n 3, 1) := by decide +kernel
theorem dX9_rate_36 : decode cX9_rate 36 = .ok (.getfield 132, 3) := by decide +kernel
theorem dX9_rate_39 : decode cX9_rate 39 = .ok (.goto 7, 3) := by decide +kernel
theorem dX9_rate_42 : decode cX9_rate 42 = .ok (.aload_n 3, 1) := by decide +kernel
theorem dX9_rate_43 : decode cX9_rate 43 = .ok (.getfield 129, 3) := by decide +kernel
theorem dX9_rate_46 : decode cX9_rate 46 = .ok (.istore 5, 2) := by decide +kernel
theorem dX9_rate_48 : decode cX9_rate 48 = .ok (.aload_n 0, 1) := by decide +kernel
theorem dX9_rate_49 : decode cX9_rate 49 = .ok (.iload 4, 2) := by decide +kernel
theorem dX9_rate_51 : decode cX9_rate 51 = .ok (.iconst 1, 1) := by decide +kernel
theorem dX9_rate_52 : decode cX9_rate 52 = .ok (.if_icmp .ge 8, 3) := by decide +kernel
theorem dX9_rate_55 : decode cX9_rate 55 = .ok (.iload 5, 2) := by decide +kernel
theorem dX9_rate_57 : decode cX9_rate 57 = .ok (.goto 8, 3) := by decide +kernel
theorem dX9_rate_60 : decode cX9_rate 60 = .ok (.iload 5, 2) := by decide +kernel
theorem dX9_rate_62 : decode cX9_rate 62 = .ok (.iload 4, 2) := by decide +kernel
theorem dX9_rate_64 : decode cX9_rate 64 = .ok (.idiv, 1) := by decide +kernel
theorem dX9_rate_65 : decode cX9_rate 65 = .ok (.invokevirtual 63, 3) := by decide +kernel
theorem dX9_rate_68 : decode cX9_rate 68 = .ok (.ireturn, 1) := by decide +kernel
theorem dX9_unlike_0 : decode cX9_unlike 0 = .ok (.aload_n 0, 1) := by decide +kernel
theorem dX9_unlike_1 : decode cX9_unlike 1 = .ok (.iload_n 1, 1) := by decide +kernel
theorem dX9_unlike_2 : decode cX9_unlike 2 = .ok (.invokevirtual 90, 3) := by decide +kernel
theorem dX9_unlike_5 : decode cX9_unlike 5 = .ok (.astore_n 3, 1) := by decide +kernel
theorem dX9_unlike_6 : decode cX9_unlike 6 = .ok (.aload_n 0, 1) := by decide +kernel
theorem dX9_unlike_7 : decode cX9_unlike 7 = .ok (.iload_n 2, 1) := by decide +kernel
theorem dX9_unlike_8 : decode cX9_unlike 8 = .ok (.invokevirtual 90, 3) := by decide +kernel
theorem dX9_unlike_11 : decode cX9_unlike 11 = .ok (.astore 4, 2) := by decide +kernel
theorem dX9_unlike_13 : decode cX9_unlike 13 = .ok (.aload_n 3, 1) := by decide +kernel
theorem dX9_unlike_14 : decode cX9_unlike 14 = .ok (.ifnull 8, 3) := by decide +kernel
theorem dX9_unlike_17 : decode cX9_unlike 17 = .ok (.aload 4, 2) := by decide +kernel
theorem dX9_unlike_19 : decode cX9_unlike 19 = .ok (.ifnonnull 11, 3) := by decide +kernel
theorem dX9_unlike_22 : decode cX9_unlike 22 = .ok (.aload_n 0, 1) := by decide +kernel
theorem dX9_unlike_23 : decode cX9_unlike 23 = .ok (.iconst (-1), 1) := by decide +kernel
theorem dX9_unlike_24 : decode cX9_unlike 24 = .ok (.putfield 54, 3) := by decide +kernel
theorem dX9_unlike_27 : decode cX9_unlike 27 = .ok (.bipush (-2), 2) := by decide +kernel
theorem dX9_unlike_29 : decode cX9_unlike 29 = .ok (.ireturn, 1) := by decide +kernel
theorem dX9_unlike_30 : decode cX9_unlike 30 = .ok (.aload_n 3, 1) := by decide +kernel
theorem dX9_unlike_31 : decode cX9_unlike 31 = .ok (.aload 4, 2) := by decide +kernel
theorem dX9_unlike_33 : decode cX9_unlike 33 = .ok (.invokestatic 93, 3) := by decide +kernel
theorem dX9_unlike_36 : decode cX9_unlike 36 = .ok (.istore 5, 2) := by decide +kernel
theorem dX9_unlike_38 : decode cX9_unlike 38 = .ok (.iload 5, 2) := by decide +kernel
theorem dX9_unlike_40 : decode cX9_unlike 40 = .ok (.iconst (-1), 1) := by decide +kernel
theorem dX9_unlike_41 : decode cX9_unlike 41 = .ok (.if_icmp .ne 12, 3) := by decide +kernel
theorem dX9_unlike_44 : decode cX9_unlike 44 = .ok (.aload_n 0, 1) := by decide +kernel
theorem dX9_unlike_45 : decode cX9_unlike 45 = .ok (.bipush (-4), 2) := by decide +kernel
theorem dX9_unlike_47 : decode cX9_unlike 47 = .ok (.putfield 54, 3) := by decide +kernel
theorem dX9_unlike_50 : decode cX9_unlike 50 = .ok (.bipush (-2), 2) := by decide +kernel
theorem dX9_unlike_52 : decode cX9_unlike 52 = .ok (.ireturn, 1) := by decide +kernel
theorem dX9_unlike_53 : decode cX9_unlike 53 = .ok (.aload_n 0, 1) := by decide +kernel
theorem dX9_unlike_54 : decode cX9_unlike 54 = .ok (.aload_n 3, 1) := by decide +kernel
theorem dX9_unlike_55 : decode cX9_unlike 55 = .ok (.aload 4, 2) := by decide +kernel
theorem dX9_unlike_57 : decode cX9_unlike 57 = .ok (.iload 5, 2) := by decide +kernel
theorem dX9_unlike_59 : decode cX9_unlike 59 = .ok (.invokestatic 146, 3) := by decide +kernel
theorem dX9_unlike_62 : decode cX9_unlike 62 = .ok (.invokevirtual 63, 3) := by decide +kernel
theorem dX9_unlike_65 : decode cX9_unlike 65 = .ok (.ireturn, 1) := by decide +kernel
theorem dX9_below_0 : decode cX9_below 0 = .ok (.aload_n 0, 1) := by decide +kernel
theorem dX9_below_1 : decode cX9_below 1 = .ok (.iload_n 1, 1) := by decide +kernel
theorem dX9_below_2 : decode cX9_below 2 = .ok (.invokevirtual 90, 3) := by decide +kernel
theorem dX9_below_5 : decode cX9_below 5 = .ok (.astore_n 3, 1) := by decide +kernel
theorem dX9_below_6 : decode cX9_below 6 = .ok (.aload_n 0, 1) := by decide +kernel
theorem dX9_below_7 : decode cX9_below 7 = .ok (.iload_n 2, 1) := by decide +kernel
theorem dX9_below_8 : decode cX9_below 8 = .ok (.invokevirtual 90, 3) := by decide +kernel
theorem dX9_below_11 : decode cX9_below 11 = .ok (.astore 4, 2) := by decide +kernel
theorem dX9_below_13 : decode cX9_below 13 = .ok (.aload_n 3, 1) := by decide +kernel
theorem dX9_below_14 : decode cX9_below 14 = .ok (.ifnull 8, 3) := by decide +kernel
theorem dX9_below_17 : decode cX9_below 17 = .ok (.aload 4, 2) := by decide +kernel
theorem dX9_below_19 : decode cX9_below 19 = .ok (.ifnonnull 9, 3) := by decide +kernel
theorem dX9_below_22 : decode cX9_below 22 = .ok (.aload_n 0, 1) := by decide +kernel
theorem dX9_below_23 : decode cX9_below 23 = .ok (.iconst (-1), 1) := by decide +kernel
theorem dX9_below_24 : decode cX9_below 24 = .ok (.invokevirtual 59, 3) := by decide +kernel
theorem dX9_below_27 : decode cX9_below 27 = .ok (.ireturn, 1) := by decide +kernel
theorem dX9_below_28 : decode cX9_below 28 = .ok (.aload_n 3, 1) := by decide +kernel
theorem dX9_below_29 : decode cX9_below 29 = .ok (.aload 4, 2) := by decide +kernel
theorem dX9_below_31 : decode cX9_below 31 = .ok (.invokestatic 93, 3) := by decide +kernel
theorem dX9_below_34 : decode cX9_below 34 = .ok (.istore 5, 2) := by decide +kernel
theorem dX9_below_36 : decode cX9_below 36 = .ok (.iload 5, 2) := by decide +kernel
theorem dX9_below_38 : decode cX9_below 38 = .ok (.iconst (-1), 1) := by decide +kernel
theorem dX9_below_39 : decode cX9_below 39 = .ok (.if_icmp .ne 10, 3) := by decide +kernel
theorem dX9_below_42 : decode cX9_below 42 = .ok (.aload_n 0, 1) := by decide +kernel
theorem dX9_below_43 : decode cX9_below 43 = .ok (.bipush (-4), 2) := by decide +kernel
theorem dX9_below_45 : decode cX9_below 45 = .ok (.invokevirtual 59, 3) := by decide +kernel
theorem dX9_below_48 : decode cX9_below 48 = .ok (.ireturn, 1) := by decide +kernel
theorem dX9_below_49 : decode cX9_below 49 = .ok (.aload_n 3, 1) := by decide +kernel
theorem dX9_below_50 : decode cX9_below 50 = .ok (.aload 4, 2) := by decide +kernel
theorem dX9_below_52 : decode cX9_below 52 = .ok (.iload 5, 2) := by decide +kernel
theorem dX9_below_54 : decode cX9_below 54 = .ok (.invokestatic 99, 3) := by decide +kernel
theorem dX9_below_57 : decode cX9_below 57 = .ok (.ifCond .ne 20, 3) := by decide +kernel
theorem dX9_below_60 : decode cX9_below 60 = .ok (.aload_n 3, 1) := by decide +kernel
theorem dX9_below_61 : decode cX9_below 61 = .ok (.aload 4, 2) := by decide +kernel
theorem dX9_below_63 : decode cX9_below 63 = .ok (.iload 5, 2) := by decide +kernel
theorem dX9_below_65 : decode cX9_below 65 = .ok (.invokestatic 150, 3) := by decide +kernel
theorem dX9_below_68 : decode cX9_below 68 = .ok (.lconst 0, 1) := by decide +kernel
theorem dX9_below_69 : decode cX9_below 69 = .ok (.lcmp, 1) := by decide +kernel
theorem dX9_below_70 : decode cX9_below 70 = .ok (.ifCond .ne 7, 3) := by decide +kernel
theorem dX9_below_73 : decode cX9_below 73 = .ok (.iconst 1, 1) := by decide +kernel
theorem dX9_below_74 : decode cX9_below 74 = .ok (.goto 4, 3) := by decide +kernel
theorem dX9_below_77 : decode cX9_below 77 = .ok (.iconst 0, 1) := by decide +kernel
theorem dX9_below_78 : decode cX9_below 78 = .ok (.istore 6, 2) := by decide +kernel
theorem dX9_below_80 : decode cX9_below 80 = .ok (.aload_n 0, 1) := by decide +kernel
theorem dX9_below_81 : decode cX9_below 81 = .ok (.iload 6, 2) := by decide +kernel
theorem dX9_below_83 : decode cX9_below 83 = .ok (.ifCond .eq 7, 3) := by decide +kernel
theorem dX9_below_86 : decode cX9_below 86 = .ok (.iconst 1, 1) := by decide +kernel
theorem dX9_below_87 : decode cX9_below 87 = .ok (.goto 4, 3) := by decide +kernel
theorem dX9_below_90 : decode cX9_below 90 = .ok (.iconst 0, 1) := by decide +kernel
theorem dX9_below_91 : decode cX9_below 91 = .ok (.invokevirtual 63, 3) := by decide +kernel
theorem dX9_below_94 : decode cX9_below 94 = .ok (.ireturn, 1) := by decide +kernel
theorem dX9_first_0 : decode cX9_first 0 = .ok (.aload_n 0, 1) := by decide +kernel
theorem dX9_first_1 : decode cX9_first 1 = .ok (.iload_n 1, 1) := by decide +kernel
theorem dX9_first_2 : decode cX9_first 2 = .ok (.invokevirtual 90, 3) := by decide +kernel
theorem dX9_first_5 : decode cX9_first 5 = .ok (.astore 4, 2) := by decide +kernel
theorem dX9_first_7 : decode cX9_first 7 = .ok (.aload 4, 2) := by decide +kernel
theorem dX9_first_9 : decode cX9_first 9 = .ok (.ifnull 9, 3) := by decide +kernel
theorem dX9_first_12 : decode cX9_first 12 = .ok (.lload_n 2, 1) := by decide +kernel
theorem dX9_first_13 : decode cX9_first 13 = .ok (.lconst 0, 1) := by decide +kernel
theorem dX9_first_14 : decode cX9_first 14 = .ok (.lcmp, 1) := by decide +kernel
theorem dX9_first_15 : decode cX9_first 15 = .ok (.ifCond .ge 9, 3) := by decide +kernel
theorem dX9_first_18 : decode cX9_first 18 = .ok (.aload_n 0, 1) := by decide +kernel
theorem dX9_first_19 : decode cX9_first 19 = .ok (.iconst (-1), 1) := by decide +kernel
theorem dX9_first_20 : decode cX9_first 20 = .ok (.invokevirtual 59, 3) := by decide +kernel
theorem dX9_first_23 : decode cX9_first 23 = .ok (.ireturn, 1) := by decide +kernel
theorem dX9_first_24 : decode cX9_first 24 = .ok (.aload 4, 2) := by decide +kernel
theorem dX9_first_26 : decode cX9_first 26 = .ok (.lload_n 2, 1) := by decide +kernel
theorem dX9_first_27 : decode cX9_first 27 = .ok (.ldc 73, 2) := by decide +kernel
theorem dX9_first_29 : decode cX9_first 29 = .ok (.invokevirtual 154, 3) := by decide +kernel
theorem dX9_first_32 : decode cX9_first 32 = .ok (.istore 5, 2) := by decide +kernel
theorem dX9_first_34 : decode cX9_first 34 = .ok (.iload 5, 2) := by decide +kernel
theorem dX9_first_36 : decode cX9_first 36 = .ok (.iconst (-1), 1) := by decide +kernel
theorem dX9_first_37 : decode cX9_first 37 = .ok (.if_icmp .ne 12, 3) := by decide +kernel
theorem dX9_first_40 : decode cX9_first 40 = .ok (.aload_n 0, 1) := by decide +kernel
theorem dX9_first_41 : decode cX9_first 41 = .ok (.bipush (-5), 2) := by decide +kernel
theorem dX9_first_43 : decode cX9_first 43 = .ok (.invokevirtual 59, 3) := by decide +kernel
theorem dX9_first_46 : decode cX9_first 46 = .ok (.goto 9, 3) := by decide +kernel
theorem dX9_first_49 : decode cX9_first 49 = .ok (.aload_n 0, 1) := by decide +kernel
theorem dX9_first_50 : decode cX9_first 50 = .ok (.iload 5, 2) := by decide +kernel
theorem dX9_first_52 : decode cX9_first 52 = .ok (.invokevirtual 63, 3) := by decide +kernel
theorem dX9_first_55 : decode cX9_first 55 = .ok (.ireturn, 1) := by decide +kernel
theorem dX9_heap_0 : decode cX9_heap 0 = .ok (.aload_n 0, 1) := by decide +kernel
theorem dX9_heap_1 : decode cX9_heap 1 = .ok (.iload_n 1, 1) := by decide +kernel
theorem dX9_heap_2 : decode cX9_heap 2 = .ok (.invokevirtual 90, 3) := by decide +kernel
theorem dX9_heap_5 : decode cX9_heap 5 = .ok (.astore_n 3, 1) := by decide +kernel
theorem dX9_heap_6 : decode cX9_heap 6 = .ok (.aload_n 0, 1) := by decide +kernel
theorem dX9_heap_7 : decode cX9_heap 7 = .ok (.iload_n 2, 1) := by decide +kernel
theorem dX9_heap_8 : decode cX9_heap 8 = .ok (.invokevirtual 90, 3) := by decide +kernel
theorem dX9_heap_11 : decode cX9_heap 11 = .ok (.astore 4, 2) := by decide +kernel
theorem dX9_heap_13 : decode cX9_heap 13 = .ok (.aload_n 3, 1) := by decide +kernel
theorem dX9_heap_14 : decode cX9_heap 14 = .ok (.ifnull 8, 3) := by decide +kernel
theorem dX9_heap_17 : decode cX9_heap 17 = .ok (.aload 4, 2) := by decide +kernel
theorem dX9_heap_19 : decode cX9_heap 19 = .ok (.ifnonnull 9, 3) := by decide +kernel
theorem dX9_heap_22 : decode cX9_heap 22 = .ok (.aload_n 0, 1) := by decide +kernel
theorem dX9_heap_23 : decode cX9_heap 23 = .ok (.iconst (-1), 1) := by decide +kernel
theorem dX9_heap_24 : decode cX9_heap 24 = .ok (.invokevirtual 114, 3) := by decide +kernel
theorem dX9_heap_27 : decode cX9_heap 27 = .ok (.lreturn, 1) := by decide +kernel
theorem dX9_heap_28 : decode cX9_heap 28 = .ok (.aload_n 3, 1) := by decide +kernel
theorem dX9_heap_29 : decode cX9_heap 29 = .ok (.aload 4, 2) := by decide +kernel
theorem dX9_heap_31 : decode cX9_heap 31 = .ok (.invokestatic 93, 3) := by decide +kernel
theorem dX9_heap_34 : decode cX9_heap 34 = .ok (.istore 5, 2) := by decide +kernel
theorem dX9_heap_36 : decode cX9_heap 36 = .ok (.iload 5, 2) := by decide +kernel
theorem dX9_heap_38 : decode cX9_heap 38 = .ok (.iconst (-1), 1) := by decide +kernel
theorem dX9_heap_39 : decode cX9_heap 39 = .ok (.if_icmp .ne 10, 3) := by decide +kernel
theorem dX9_heap_42 : decode cX9_heap 42 = .ok (.aload_n 0, 1) := by decide +kernel
theorem dX9_heap_43 : decode cX9_heap 43 = .ok (.bipush (-4), 2) := by decide +kernel
theorem dX9_heap_45 : decode cX9_heap 45 = .ok (.invokevirtual 114, 3) := by decide +kernel
theorem dX9_heap_48 : decode cX9_heap 48 = .ok (.lreturn, 1) := by decide +kernel
theorem dX9_heap_49 : decode cX9_heap 49 = .ok (.aload_n 3, 1) := by decide +kernel
theorem dX9_heap_50 : decode cX9_heap 50 = .ok (.aload 4, 2) := by decide +kernel
theorem dX9_heap_52 : decode cX9_heap 52 = .ok (.iload 5, 2) := by decide +kernel
theorem dX9_heap_54 : decode cX9_heap 54 = .ok (.invokestatic 99, 3) := by decide +kernel
theorem dX9_heap_57 : decode cX9_heap 57 = .ok (.ifCond .eq 10, 3) := by decide +kernel
theorem dX9_heap_60 : decode cX9_heap 60 = .ok (.aload_n 0, 1) := by decide +kernel
theorem dX9_heap_61 : decode cX9_heap 61 = .ok (.bipush (-5), 2) := by decide +kernel
theorem dX9_heap_63 : decode cX9_heap 63 = .ok (.invokevirtual 114, 3) := by decide +kernel
theorem dX9_heap_66 : decode cX9_heap 66 = .ok (.lreturn, 1) := by decide +kernel
theorem dX9_heap_67 : decode cX9_heap 67 = .ok (.aload_n 0, 1) := by decide +kernel
theorem dX9_heap_68 : decode cX9_heap 68 = .ok (.aload_n 3, 1) := by decide +kernel
theorem dX9_heap_69 : decode cX9_heap 69 = .ok (.aload 4, 2) := by decide +kernel
theorem dX9_heap_71 : decode cX9_heap 71 = .ok (.iload 5, 2) := by decide +kernel
theorem dX9_heap_73 : decode cX9_heap 73 = .ok (.invokestatic 150, 3) := by decide +kernel
theorem dX9_heap_76 : decode cX9_heap 76 = .ok (.invokevirtual 122, 3) := by decide +kernel
theorem dX9_heap_79 : decode cX9_heap 79 = .ok (.lreturn, 1) := by decide +kernel
theorem dX9_wait_0 : decode cX9_wait 0 = .ok (.aload_n 0, 1) := by decide +kernel
theorem dX9_wait_1 : decode cX9_wait 1 = .ok (.iload_n 1, 1) := by decide +kernel
theorem dX9_wait_2 : decode cX9_wait 2 = .ok (.invokevirtual 90, 3) := by decide +kernel
theorem dX9_wait_5 : decode cX9_wait 5 = .ok (.astore_n 3, 1) := by decide +kernel
theorem dX9_wait_6 : decode cX9_wait 6 = .ok (.aload_n 0, 1) := by decide +kernel
theorem dX9_wait_7 : decode cX9_wait 7 = .ok (.iload_n 2, 1) := by decide +kernel
theorem dX9_wait_8 : decode cX9_wait 8 = .ok (.invokevirtual 90, 3) := by decide +kernel
theorem dX9_wait_11 : decode cX9_wait 11 = .ok (.astore 4, 2) := by decide +kernel
theorem dX9_wait_13 : decode cX9_wait 13 = .ok (.aload_n 3, 1) := by decide +kernel
theorem dX9_wait_14 : decode cX9_wait 14 = .ok (.ifnull 8, 3) := by decide +kernel
theorem dX9_wait_17 : decode cX9_wait 17 = .ok (.aload 4, 2) := by decide +kernel
theorem dX9_wait_19 : decode cX9_wait 19 = .ok (.ifnonnull 9, 3) := by decide +kernel
theorem dX9_wait_22 : decode cX9_wait 22 = .ok (.aload_n 0, 1) := by decide +kernel
theorem dX9_wait_23 : decode cX9_wait 23 = .ok (.iconst (-1), 1) := by decide +kernel
theorem dX9_wait_24 : decode cX9_wait 24 = .ok (.invokevirtual 59, 3) := by decide +kernel
theorem dX9_wait_27 : decode cX9_wait 27 = .ok (.ireturn, 1) := by decide +kernel
theorem dX9_wait_28 : decode cX9_wait 28 = .ok (.aload_n 3, 1) := by decide +kernel
theorem dX9_wait_29 : decode cX9_wait 29 = .ok (.aload 4, 2) := by decide +kernel
theorem dX9_wait_31 : decode cX9_wait 31 = .ok (.invokestatic 93, 3) := by decide +kernel
theorem dX9_wait_34 : decode cX9_wait 34 = .ok (.istore 5, 2) := by decide +kernel
theorem dX9_wait_36 : decode cX9_wait 36 = .ok (.iload 5, 2) := by decide +kernel
theorem dX9_wait_38 : decode cX9_wait 38 = .ok (.iconst (-1), 1) := by decide +kernel
theorem dX9_wait_39 : decode cX9_wait 39 = .ok (.if_icmp .ne 10, 3) := by decide +kernel
theorem dX9_wait_42 : decode cX9_wait 42 = .ok (.aload_n 0, 1) := by decide +kernel
theorem dX9_wait_43 : decode cX9_wait 43 = .ok (.bipush (-4), 2) := by decide +kernel
theorem dX9_wait_45 : decode cX9_wait 45 = .ok (.invokevirtual 59, 3) := by decide +kernel
theorem dX9_wait_48 : decode cX9_wait 48 = .ok (.ireturn, 1) := by decide +kernel
theorem dX9_wait_49 : decode cX9_wait 49 = .ok (.aload_n 3, 1) := by decide +kernel
theorem dX9_wait_50 : decode cX9_wait 50 = .ok (.aload 4, 2) := by decide +kernel
theorem dX9_wait_52 : decode cX9_wait 52 = .ok (.iload 5, 2) := by decide +kernel
theorem dX9_wait_54 : decode cX9_wait 54 = .ok (.invokestatic 99, 3) := by decide +kernel
theorem dX9_wait_57 : decode cX9_wait 57 = .ok (.ifCond .eq 10, 3) := by decide +kernel
theorem dX9_wait_60 : decode cX9_wait 60 = .ok (.aload_n 0, 1) := by decide +kernel
theorem dX9_wait_61 : decode cX9_wait 61 = .ok (.bipush (-5), 2) := by decide +kernel
theorem dX9_wait_63 : decode cX9_wait 63 = .ok (.invokevirtual 59, 3) := by decide +kernel
theorem dX9_wait_66 : decode cX9_wait 66 = .ok (.ireturn, 1) := by decide +kernel
theorem dX9_wait_67 : decode cX9_wait 67 = .ok (.aload_n 3, 1) := by decide +kernel
theorem dX9_wait_68 : decode cX9_wait 68 = .ok (.aload 4, 2) := by decide +kernel
theorem dX9_wait_70 : decode cX9_wait 70 = .ok (.iload 5, 2) := by decide +kernel
theorem dX9_wait_72 : decode cX9_wait 72 = .ok (.invokestatic 158, 3) := by decide +kernel
theorem dX9_wait_75 : decode cX9_wait 75 = .ok (.istore 6, 2) := by decide +kernel
theorem dX9_wait_77 : decode cX9_wait 77 = .ok (.iload 6, 2) := by decide +kernel
theorem dX9_wait_79 : decode cX9_wait 79 = .ok (.iconst (-1), 1) := by decide +kernel
theorem dX9_wait_80 : decode cX9_wait 80 = .ok (.if_icmp .ne 12, 3) := by decide +kernel
theorem dX9_wait_83 : decode cX9_wait 83 = .ok (.aload_n 0, 1) := by decide +kernel
theorem dX9_wait_84 : decode cX9_wait 84 = .ok (.bipush (-5), 2) := by decide +kernel
theorem dX9_wait_86 : decode cX9_wait 86 = .ok (.invokevirtual 59, 3) := by decide +kernel
theorem dX9_wait_89 : decode cX9_wait 89 = .ok (.goto 9, 3) := by decide +kernel
theorem dX9_wait_92 : decode cX9_wait 92 = .ok (.aload_n 0, 1) := by decide +kernel
theorem dX9_wait_93 : decode cX9_wait 93 = .ok (.iload 6, 2) := by decide +kernel
theorem dX9_wait_95 : decode cX9_wait 95 = .ok (.invokevirtual 63, 3) := by decide +kernel
theorem dX9_wait_98 : decode cX9_wait 98 = .ok (.ireturn, 1) := by decide +kernel
theorem dX9_come_0 : decode cX9_come 0 = .ok (.iload_n 1, 1) := by decide +kernel
theorem dX9_come_1 : decode cX9_come 1 = .ok (.ifCond .lt 9, 3) := by decide +kernel
theorem dX9_come_4 : decode cX9_come 4 = .ok (.iload_n 1, 1) := by decide +kernel
theorem dX9_come_5 : decode cX9_come 5 = .ok (.ldc 73, 2) := by decide +kernel
theorem dX9_come_7 : decode cX9_come 7 = .ok (.if_icmp .le 9, 3) := by decide +kernel
theorem dX9_come_10 : decode cX9_come 10 = .ok (.aload_n 0, 1) := by decide +kernel
theorem dX9_come_11 : decode cX9_come 11 = .ok (.iconst (-1), 1) := by decide +kernel
theorem dX9_come_12 : decode cX9_come 12 = .ok (.invokevirtual 59, 3) := by decide +kernel
theorem dX9_come_15 : decode cX9_come 15 = .ok (.ireturn, 1) := by decide +kernel
theorem dX9_come_16 : decode cX9_come 16 = .ok (.aload_n 0, 1) := by decide +kernel
theorem dX9_come_17 : decode cX9_come 17 = .ok (.getfield 33, 3) := by decide +kernel
theorem dX9_come_20 : decode cX9_come 20 = .ok (.invokevirtual 161, 3) := by decide +kernel
theorem dX9_come_23 : decode cX9_come 23 = .ok (.ifCond .eq 10, 3) := by decide +kernel
theorem dX9_come_26 : decode cX9_come 26 = .ok (.aload_n 0, 1) := by decide +kernel
theorem dX9_come_27 : decode cX9_come 27 = .ok (.bipush (-3), 2) := by decide +kernel
theorem dX9_come_29 : decode cX9_come 29 = .ok (.invokevirtual 59, 3) := by decide +kernel
theorem dX9_come_32 : decode cX9_come 32 = .ok (.ireturn, 1) := by decide +kernel
theorem dX9_come_33 : decode cX9_come 33 = .ok (.aload_n 0, 1) := by decide +kernel
theorem dX9_come_34 : decode cX9_come 34 = .ok (.getfield 33, 3) := by decide +kernel
theorem dX9_come_37 : decode cX9_come 37 = .ok (.iload_n 1, 1) := by decide +kernel
theorem dX9_come_38 : decode cX9_come 38 = .ok (.i2l, 1) := by decide +kernel
theorem dX9_come_39 : decode cX9_come 39 = .ok (.invokevirtual 164, 3) := by decide +kernel
theorem dX9_come_42 : decode cX9_come 42 = .ok (.aload_n 0, 1) := by decide +kernel
theorem dX9_come_43 : decode cX9_come 43 = .ok (.aload_n 0, 1) := by decide +kernel
theorem dX9_come_44 : decode cX9_come 44 = .ok (.getfield 33, 3) := by decide +kernel
theorem dX9_come_47 : decode cX9_come 47 = .ok (.getfield 168, 3) := by decide +kernel
theorem dX9_come_50 : decode cX9_come 50 = .ok (.invokevirtual 63, 3) := by decide +kernel
theorem dX9_come_53 : decode cX9_come 53 = .ok (.ireturn, 1) := by decide +kernel
theorem dX9_hardest_0 : decode cX9_hardest 0 = .ok (.aload_n 0, 1) := by decide +kernel
theorem dX9_hardest_1 : decode cX9_hardest 1 = .ok (.iload_n 1, 1) := by decide +kernel
theorem dX9_hardest_2 : decode cX9_hardest 2 = .ok (.invokevirtual 90, 3) := by decide +kernel
theorem dX9_hardest_5 : decode cX9_hardest 5 = .ok (.astore_n 3, 1) := by decide +kernel
theorem dX9_hardest_6 : decode cX9_hardest 6 = .ok (.aload_n 3, 1) := by decide +kernel
theorem dX9_hardest_7 : decode cX9_hardest 7 = .ok (.ifnull 21, 3) := by decide +kernel
theorem dX9_hardest_10 : decode cX9_hardest 10 = .ok (.iload_n 2, 1) := by decide +kernel
theorem dX9_hardest_11 : decode cX9_hardest 11 = .ok (.ifCond .lt 17, 3) := by decide +kernel
theorem dX9_hardest_14 : decode cX9_hardest 14 = .ok (.iload_n 2, 1) := by decide +kernel
theorem dX9_hardest_15 : decode cX9_hardest 15 = .ok (.bipush 60, 2) := by decide +kernel
theorem dX9_hardest_17 : decode cX9_hardest 17 = .ok (.if_icmp .gt 11, 3) := by decide +kernel
theorem dX9_hardest_20 : decode cX9_hardest 20 = .ok (.aload_n 3, 1) := by decide +kernel
theorem dX9_hardest_21 : decode cX9_hardest 21 = .ok (.iload_n 2, 1) := by decide +kernel
theorem dX9_hardest_22 : decode cX9_hardest 22 = .ok (.invokestatic 171, 3) := by decide +kernel
theorem dX9_hardest_25 : decode cX9_hardest 25 = .ok (.ifCond .ne 9, 3) := by decide +kernel
theorem dX9_hardest_28 : decode cX9_hardest 28 = .ok (.aload_n 0, 1) := by decide +kernel
theorem dX9_hardest_29 : decode cX9_hardest 29 = .ok (.iconst (-1), 1) := by decide +kernel
theorem dX9_hardest_30 : decode cX9_hardest 30 = .ok (.invokevirtual 59, 3) := by decide +kernel
theorem dX9_hardest_33 : decode cX9_hardest 33 = .ok (.ireturn, 1) := by decide +kernel
theorem dX9_hardest_34 : decode cX9_hardest 34 = .ok (.aload_n 0, 1) := by decide +kernel
theorem dX9_hardest_35 : decode cX9_hardest 35 = .ok (.getfield 33, 3) := by decide +kernel
theorem dX9_hardest_38 : decode cX9_hardest 38 = .ok (.aload_n 3, 1) := by decide +kernel
theorem dX9_hardest_39 : decode cX9_hardest 39 = .ok (.iload_n 2, 1) := by decide +kernel
theorem dX9_hardest_40 : decode cX9_hardest 40 = .ok (.invokevirtual 175, 3) := by decide +kernel
theorem dX9_hardest_43 : decode cX9_hardest 43 = .ok (.aload_n 0, 1) := by decide +kernel
theorem dX9_hardest_44 : decode cX9_hardest 44 = .ok (.aload_n 0, 1) := by decide +kernel
theorem dX9_hardest_45 : decode cX9_hardest 45 = .ok (.getfield 33, 3) := by decide +kernel
theorem dX9_hardest_48 : decode cX9_hardest 48 = .ok (.getfield 168, 3) := by decide +kernel
theorem dX9_hardest_51 : decode cX9_hardest 51 = .ok (.invokevirtual 63, 3) := by decide +kernel
theorem dX9_hardest_54 : decode cX9_hardest 54 = .ok (.ireturn, 1) := by decide +kernel
theorem dX9_stop_0 : decode cX9_stop 0 = .ok (.aload_n 0, 1) := by decide +kernel
theorem dX9_stop_1 : decode cX9_stop 1 = .ok (.getfield 33, 3) := by decide +kernel
theorem dX9_stop_4 : decode cX9_stop 4 = .ok (.getfield 168, 3) := by decide +kernel
theorem dX9_stop_7 : decode cX9_stop 7 = .ok (.istore_n 1, 1) := by decide +kernel
theorem dX9_stop_8 : decode cX9_stop 8 = .ok (.aload_n 0, 1) := by decide +kernel
theorem dX9_stop_9 : decode cX9_stop 9 = .ok (.getfield 33, 3) := by decide +kernel
theorem dX9_stop_12 : decode cX9_stop 12 = .ok (.iconst 0, 1) := by decide +kernel
theorem dX9_stop_13 : decode cX9_stop 13 = .ok (.putfield 168, 3) := by decide +kernel
theorem dX9_stop_16 : decode cX9_stop 16 = .ok (.aload_n 0, 1) := by decide +kernel
theorem dX9_stop_17 : decode cX9_stop 17 = .ok (.iload_n 1, 1) := by decide +kernel
theorem dX9_stop_18 : decode cX9_stop 18 = .ok (.invokevirtual 63, 3) := by decide +kernel
theorem dX9_stop_21 : decode cX9_stop 21 = .ok (.ireturn, 1) := by decide +kernel
theorem dX9_serve_0 : decode cX9_serve 0 = .ok (.aload_n 0, 1) := by decide +kernel
theorem dX9_serve_1 : decode cX9_serve 1 = .ok (.iload_n 1, 1) := by decide +kernel
theorem dX9_serve_2 : decode cX9_serve 2 = .ok (.invokevirtual 90, 3) := by decide +kernel
theorem dX9_serve_5 : decode cX9_serve 5 = .ok (.ifnonnull 9, 3) := by decide +kernel
theorem dX9_serve_8 : decode cX9_serve 8 = .ok (.aload_n 0, 1) := by decide +kernel
theorem dX9_serve_9 : decode cX9_serve 9 = .ok (.iconst (-1), 1) := by decide +kernel
theorem dX9_serve_10 : decode cX9_serve 10 = .ok (.invokevirtual 59, 3) := by decide +kernel
theorem dX9_serve_13 : decode cX9_serve 13 = .ok (.ireturn, 1) := by decide +kernel
theorem dX9_serve_14 : decode cX9_serve 14 = .ok (.aload_n 0, 1) := by decide +kernel
theorem dX9_serve_15 : decode cX9_serve 15 = .ok (.iload_n 1, 1) := by decide +kernel
theorem dX9_serve_16 : decode cX9_serve 16 = .ok (.putfield 37, 3) := by decide +kernel
theorem dX9_serve_19 : decode cX9_serve 19 = .ok (.aload_n 0, 1) := by decide +kernel
theorem dX9_serve_20 : decode cX9_serve 20 = .ok (.iconst 1, 1) := by decide +kernel
theorem dX9_serve_21 : decode cX9_serve 21 = .ok (.invokevirtual 63, 3) := by decide +kernel
theorem dX9_serve_24 : decode cX9_serve 24 = .ok (.ireturn, 1) := by decide +kernel
theorem dX9_moved_0 : decode cX9_moved 0 = .ok (.iload_n 1, 1) := by decide +kernel
theorem dX9_moved_1 : decode cX9_moved 1 = .ok (.ifCond .lt 19, 3) := by decide +kernel
theorem dX9_moved_4 : decode cX9_moved 4 = .ok (.iload_n 1, 1) := by decide +kernel
theorem dX9_moved_5 : decode cX9_moved 5 = .ok (.iconst 2, 1) := by decide +kernel
theorem dX9_moved_6 : decode cX9_moved 6 = .ok (.if_icmp .gt 14, 3) := by decide +kernel
theorem dX9_moved_9 : decode cX9_moved 9 = .ok (.iload_n 2, 1) := by decide +kernel
theorem dX9_moved_10 : decode cX9_moved 10 = .ok (.ifCond .lt 10, 3) := by decide +kernel
theorem dX9_moved_13 : decode cX9_moved 13 = .ok (.iload_n 2, 1) := by decide +kernel
theorem dX9_moved_14 : decode cX9_moved 14 = .ok (.sipush 600, 3) := by decide +kernel
theorem dX9_moved_17 : decode cX9_moved 17 = .ok (.if_icmp .le 9, 3) := by decide +kernel
theorem dX9_moved_20 : decode cX9_moved 20 = .ok (.aload_n 0, 1) := by decide +kernel
theorem dX9_moved_21 : decode cX9_moved 21 = .ok (.iconst (-1), 1) := by decide +kernel
theorem dX9_moved_22 : decode cX9_moved 22 = .ok (.invokevirtual 114, 3) := by decide +kernel
theorem dX9_moved_25 : decode cX9_moved 25 = .ok (.lreturn, 1) := by decide +kernel
theorem dX9_moved_26 : decode cX9_moved 26 = .ok (.iload_n 1, 1) := by decide +kernel
theorem dX9_moved_27 : decode cX9_moved 27 = .ok (.ifCond .ne 16, 3) := by decide +kernel
theorem dX9_moved_30 : decode cX9_moved 30 = .ok (.aload_n 0, 1) := by decide +kernel
theorem dX9_moved_31 : decode cX9_moved 31 = .ok (.aload_n 0, 1) := by decide +kernel
theorem dX9_moved_32 : decode cX9_moved 32 = .ok (.getfield 33, 3) := by decide +kernel
theorem dX9_moved_35 : decode cX9_moved 35 = .ok (.iload_n 2, 1) := by decide +kernel
theorem dX9_moved_36 : decode cX9_moved 36 = .ok (.invokevirtual 179, 3) := by decide +kernel
theorem dX9_moved_39 : decode cX9_moved 39 = .ok (.invokevirtual 122, 3) := by decide +kernel
theorem dX9_moved_42 : decode cX9_moved 42 = .ok (.lreturn, 1) := by decide +kernel
theorem dX9_moved_43 : decode cX9_moved 43 = .ok (.aload_n 0, 1) := by decide +kernel
theorem dX9_moved_44 : decode cX9_moved 44 = .ok (.aload_n 0, 1) := by decide +kernel
theorem dX9_moved_45 : decode cX9_moved 45 = .ok (.getfield 37, 3) := by decide +kernel
theorem dX9_moved_48 : decode cX9_moved 48 = .ok (.invokevirtual 90, 3) := by decide +kernel
theorem dX9_moved_51 : decode cX9_moved 51 = .ok (.astore_n 3, 1) := by decide +kernel
theorem dX9_moved_52 : decode cX9_moved 52 = .ok (.aload_n 3, 1) := by decide +kernel
theorem dX9_moved_53 : decode cX9_moved 53 = .ok (.ifnonnull 10, 3) := by decide +kernel
theorem dX9_moved_56 : decode cX9_moved 56 = .ok (.aload_n 0, 1) := by decide +kernel
theorem dX9_moved_57 : decode cX9_moved 57 = .ok (.bipush (-2), 2) := by decide +kernel
theorem dX9_moved_59 : decode cX9_moved 59 = .ok (.invokevirtual 114, 3) := by decide +kernel
theorem dX9_moved_62 : decode cX9_moved 62 = .ok (.lreturn, 1) := by decide +kernel
theorem dX9_moved_63 : decode cX9_moved 63 = .ok (.aload_n 0, 1) := by decide +kernel
theorem dX9_moved_64 : decode cX9_moved 64 = .ok (.iload_n 1, 1) := by decide +kernel
theorem dX9_moved_65 : decode cX9_moved 65 = .ok (.iconst 1, 1) := by decide +kernel
theorem dX9_moved_66 : decode cX9_moved 66 = .ok (.if_icmp .ne 15, 3) := by decide +kernel
theorem dX9_moved_69 : decode cX9_moved 69 = .ok (.aload_n 0, 1) := by decide +kernel
theorem dX9_moved_70 : decode cX9_moved 70 = .ok (.getfield 33, 3) := by decide +kernel
theorem dX9_moved_73 : decode cX9_moved 73 = .ok (.aload_n 3, 1) := by decide +kernel
theorem dX9_moved_74 : decode cX9_moved 74 = .ok (.iload_n 2, 1) := by decide +kernel
theorem dX9_moved_75 : decode cX9_moved 75 = .ok (.invokevirtual 182, 3) := by decide +kernel
theorem dX9_moved_78 : decode cX9_moved 78 = .ok (.goto 12, 3) := by decide +kernel
theorem dX9_moved_81 : decode cX9_moved 81 = .ok (.aload_n 0, 1) := by decide +kernel
theorem dX9_moved_82 : decode cX9_moved 82 = .ok (.getfield 33, 3) := by decide +kernel
theorem dX9_moved_85 : decode cX9_moved 85 = .ok (.aload_n 3, 1) := by decide +kernel
theorem dX9_moved_86 : decode cX9_moved 86 = .ok (.iload_n 2, 1) := by decide +kernel
theorem dX9_moved_87 : decode cX9_moved 87 = .ok (.invokevirtual 186, 3) := by decide +kernel
theorem dX9_moved_90 : decode cX9_moved 90 = .ok (.invokevirtual 122, 3) := by decide +kernel
theorem dX9_moved_93 : decode cX9_moved 93 = .ok (.lreturn, 1) := by decide +kernel
theorem dX9_late_0 : decode cX9_late 0 = .ok (.iload_n 1, 1) := by decide +kernel
theorem dX9_late_1 : decode cX9_late 1 = .ok (.ifCond .lt 14, 3) := by decide +kernel
theorem dX9_late_4 : decode cX9_late 4 = .ok (.iload_n 1, 1) := by decide +kernel
theorem dX9_late_5 : decode cX9_late 5 = .ok (.aload_n 0, 1) := by decide +kernel
theorem dX9_late_6 : decode cX9_late 6 = .ok (.getfield 33, 3) := by decide +kernel
theorem dX9_late_9 : decode cX9_late 9 = .ok (.getfield 168, 3) := by decide +kernel
theorem dX9_late_12 : decode cX9_late 12 = .ok (.if_icmp .le 9, 3) := by decide +kernel
theorem dX9_late_15 : decode cX9_late 15 = .ok (.aload_n 0, 1) := by decide +kernel
theorem dX9_late_16 : decode cX9_late 16 = .ok (.iconst (-1), 1) := by decide +kernel
theorem dX9_late_17 : decode cX9_late 17 = .ok (.invokevirtual 59, 3) := by decide +kernel
theorem dX9_late_20 : decode cX9_late 20 = .ok (.ireturn, 1) := by decide +kernel
theorem dX9_late_21 : decode cX9_late 21 = .ok (.aload_n 0, 1) := by decide +kernel
theorem dX9_late_22 : decode cX9_late 22 = .ok (.aload_n 0, 1) := by decide +kernel
theorem dX9_late_23 : decode cX9_late 23 = .ok (.getfield 37, 3) := by decide +kernel
theorem dX9_late_26 : decode cX9_late 26 = .ok (.invokevirtual 90, 3) := by decide +kernel
theorem dX9_late_29 : decode cX9_late 29 = .ok (.astore_n 2, 1) := by decide +kernel
theorem dX9_late_30 : decode cX9_late 30 = .ok (.aload_n 2, 1) := by decide +kernel
theorem dX9_late_31 : decode cX9_late 31 = .ok (.ifnonnull 10, 3) := by decide +kernel
theorem dX9_late_34 : decode cX9_late 34 = .ok (.aload_n 0, 1) := by decide +kernel
theorem dX9_late_35 : decode cX9_late 35 = .ok (.bipush (-2), 2) := by decide +kernel
theorem dX9_late_37 : decode cX9_late 37 = .ok (.invokevirtual 59, 3) := by decide +kernel
theorem dX9_late_40 : decode cX9_late 40 = .ok (.ireturn, 1) := by decide +kernel
theorem dX9_late_41 : decode cX9_late 41 = .ok (.aload_n 0, 1) := by decide +kernel
theorem dX9_late_42 : decode cX9_late 42 = .ok (.getfield 33, 3) := by decide +kernel
theorem dX9_late_45 : decode cX9_late 45 = .ok (.aload_n 2, 1) := by decide +kernel
theorem dX9_late_46 : decode cX9_late 46 = .ok (.iload_n 1, 1) := by decide +kernel
theorem dX9_late_47 : decode cX9_late 47 = .ok (.invokevirtual 189, 3) := by decide +kernel
theorem dX9_late_50 : decode cX9_late 50 = .ok (.istore_n 3, 1) := by decide +kernel
theorem dX9_late_51 : decode cX9_late 51 = .ok (.iload_n 3, 1) := by decide +kernel
theorem dX9_late_52 : decode cX9_late 52 = .ok (.iconst (-1), 1) := by decide +kernel
theorem dX9_late_53 : decode cX9_late 53 = .ok (.if_icmp .ne 12, 3) := by decide +kernel
theorem dX9_late_56 : decode cX9_late 56 = .ok (.aload_n 0, 1) := by decide +kernel
theorem dX9_late_57 : decode cX9_late 57 = .ok (.bipush (-5), 2) := by decide +kernel
theorem dX9_late_59 : decode cX9_late 59 = .ok (.invokevirtual 59, 3) := by decide +kernel
theorem dX9_late_62 : decode cX9_late 62 = .ok (.goto 8, 3) := by decide +kernel
theorem dX9_late_65 : decode cX9_late 65 = .ok (.aload_n 0, 1) := by decide +kernel
theorem dX9_late_66 : decode cX9_late 66 = .ok (.iload_n 3, 1) := by decide +kernel
theorem dX9_late_67 : decode cX9_late 67 = .ok (.invokevirtual 63, 3) := by decide +kernel
theorem dX9_late_70 : decode cX9_late 70 = .ok (.ireturn, 1) := by decide +kernel
theorem dX9_mostHeld_0 : decode cX9_mostHeld 0 = .ok (.aload_n 0, 1) := by decide +kernel
theorem dX9_mostHeld_1 : decode cX9_mostHeld 1 = .ok (.aload_n 0, 1) := by decide +kernel
theorem dX9_mostHeld_2 : decode cX9_mostHeld 2 = .ok (.getfield 37, 3) := by decide +kernel
theorem dX9_mostHeld_5 : decode cX9_mostHeld 5 = .ok (.invokevirtual 90, 3) := by decide +kernel
theorem dX9_mostHeld_8 : decode cX9_mostHeld 8 = .ok (.astore_n 1, 1) := by decide +kernel
theorem dX9_mostHeld_9 : decode cX9_mostHeld 9 = .ok (.aload_n 1, 1) := by decide +kernel
theorem dX9_mostHeld_10 : decode cX9_mostHeld 10 = .ok (.ifnonnull 10, 3) := by decide +kernel
theorem dX9_mostHeld_13 : decode cX9_mostHeld 13 = .ok (.aload_n 0, 1) := by decide +kernel
theorem dX9_mostHeld_14 : decode cX9_mostHeld 14 = .ok (.bipush (-2), 2) := by decide +kernel
theorem dX9_mostHeld_16 : decode cX9_mostHeld 16 = .ok (.invokevirtual 114, 3) := by decide +kernel
theorem dX9_mostHeld_19 : decode cX9_mostHeld 19 = .ok (.lreturn, 1) := by decide +kernel
theorem dX9_mostHeld_20 : decode cX9_mostHeld 20 = .ok (.aload_n 0, 1) := by decide +kernel
theorem dX9_mostHeld_21 : decode cX9_mostHeld 21 = .ok (.aload_n 0, 1) := by decide +kernel
theorem dX9_mostHeld_22 : decode cX9_mostHeld 22 = .ok (.getfield 33, 3) := by decide +kernel
theorem dX9_mostHeld_25 : decode cX9_mostHeld 25 = .ok (.aload_n 1, 1) := by decide +kernel
theorem dX9_mostHeld_26 : decode cX9_mostHeld 26 = .ok (.invokevirtual 193, 3) := by decide +kernel
theorem dX9_mostHeld_29 : decode cX9_mostHeld 29 = .ok (.invokevirtual 122, 3) := by decide +kernel
theorem dX9_mostHeld_32 : decode cX9_mostHeld 32 = .ok (.lreturn, 1) := by decide +kernel
theorem dX9_mostLate_0 : decode cX9_mostLate 0 = .ok (.aload_n 0, 1) := by decide +kernel
theorem dX9_mostLate_1 : decode cX9_mostLate 1 = .ok (.aload_n 0, 1) := by decide +kernel
theorem dX9_mostLate_2 : decode cX9_mostLate 2 = .ok (.getfield 37, 3) := by decide +kernel
theorem dX9_mostLate_5 : decode cX9_mostLate 5 = .ok (.invokevirtual 90, 3) := by decide +kernel
theorem dX9_mostLate_8 : decode cX9_mostLate 8 = .ok (.astore_n 1, 1) := by decide +kernel
theorem dX9_mostLate_9 : decode cX9_mostLate 9 = .ok (.aload_n 1, 1) := by decide +kernel
theorem dX9_mostLate_10 : decode cX9_mostLate 10 = .ok (.ifnonnull 10, 3) := by decide +kernel
theorem dX9_mostLate_13 : decode cX9_mostLate 13 = .ok (.aload_n 0, 1) := by decide +kernel
theorem dX9_mostLate_14 : decode cX9_mostLate 14 = .ok (.bipush (-2), 2) := by decide +kernel
theorem dX9_mostLate_16 : decode cX9_mostLate 16 = .ok (.invokevirtual 59, 3) := by decide +kernel
theorem dX9_mostLate_19 : decode cX9_mostLate 19 = .ok (.ireturn, 1) := by decide +kernel
theorem dX9_mostLate_20 : decode cX9_mostLate 20 = .ok (.aload_n 0, 1) := by decide +kernel
theorem dX9_mostLate_21 : decode cX9_mostLate 21 = .ok (.getfield 33, 3) := by decide +kernel
theorem dX9_mostLate_24 : decode cX9_mostLate 24 = .ok (.aload_n 1, 1) := by decide +kernel
theorem dX9_mostLate_25 : decode cX9_mostLate 25 = .ok (.invokevirtual 197, 3) := by decide +kernel
theorem dX9_mostLate_28 : decode cX9_mostLate 28 = .ok (.istore_n 2, 1) := by decide +kernel
theorem dX9_mostLate_29 : decode cX9_mostLate 29 = .ok (.iload_n 2, 1) := by decide +kernel
theorem dX9_mostLate_30 : decode cX9_mostLate 30 = .ok (.iconst (-1), 1) := by decide +kernel
theorem dX9_mostLate_31 : decode cX9_mostLate 31 = .ok (.if_icmp .ne 12, 3) := by decide +kernel
theorem dX9_mostLate_34 : decode cX9_mostLate 34 = .ok (.aload_n 0, 1) := by decide +kernel
theorem dX9_mostLate_35 : decode cX9_mostLate 35 = .ok (.bipush (-5), 2) := by decide +kernel
theorem dX9_mostLate_37 : decode cX9_mostLate 37 = .ok (.invokevirtual 59, 3) := by decide +kernel
theorem dX9_mostLate_40 : decode cX9_mostLate 40 = .ok (.goto 8, 3) := by decide +kernel
theorem dX9_mostLate_43 : decode cX9_mostLate 43 = .ok (.aload_n 0, 1) := by decide +kernel
theorem dX9_mostLate_44 : decode cX9_mostLate 44 = .ok (.iload_n 2, 1) := by decide +kernel
theorem dX9_mostLate_45 : decode cX9_mostLate 45 = .ok (.invokevirtual 63, 3) := by decide +kernel
theorem dX9_mostLate_48 : decode cX9_mostLate 48 = .ok (.ireturn, 1) := by decide +kernel
theorem dX9_keeps_0 : decode cX9_keeps 0 = .ok (.aload_n 0, 1) := by decide +kernel
theorem dX9_keeps_1 : decode cX9_keeps 1 = .ok (.iload_n 1, 1) := by decide +kernel
theorem dX9_keeps_2 : decode cX9_keeps 2 = .ok (.invokevirtual 90, 3) := by decide +kernel
theorem dX9_keeps_5 : decode cX9_keeps 5 = .ok (.astore_n 2, 1) := by decide +kernel
theorem dX9_keeps_6 : decode cX9_keeps 6 = .ok (.aload_n 2, 1) := by decide +kernel
theorem dX9_keeps_7 : decode cX9_keeps 7 = .ok (.ifnonnull 9, 3) := by decide +kernel
theorem dX9_keeps_10 : decode cX9_keeps 10 = .ok (.aload_n 0, 1) := by decide +kernel
theorem dX9_keeps_11 : decode cX9_keeps 11 = .ok (.iconst (-1), 1) := by decide +kernel
theorem dX9_keeps_12 : decode cX9_keeps 12 = .ok (.invokevirtual 59, 3) := by decide +kernel
theorem dX9_keeps_15 : decode cX9_keeps 15 = .ok (.ireturn, 1) := by decide +kernel
theorem dX9_keeps_16 : decode cX9_keeps 16 = .ok (.aload_n 0, 1) := by decide +kernel
theorem dX9_keeps_17 : decode cX9_keeps 17 = .ok (.aload_n 0, 1) := by decide +kernel
theorem dX9_keeps_18 : decode cX9_keeps 18 = .ok (.getfield 33, 3) := by decide +kernel
theorem dX9_keeps_21 : decode cX9_keeps 21 = .ok (.aload_n 2, 1) := by decide +kernel
theorem dX9_keeps_22 : decode cX9_keeps 22 = .ok (.invokevirtual 200, 3) := by decide +kernel
theorem dX9_keeps_25 : decode cX9_keeps 25 = .ok (.ifCond .eq 7, 3) := by decide +kernel
theorem dX9_keeps_28 : decode cX9_keeps 28 = .ok (.iconst 1, 1) := by decide +kernel
theorem dX9_keeps_29 : decode cX9_keeps 29 = .ok (.goto 4, 3) := by decide +kernel
theorem dX9_keeps_32 : decode cX9_keeps 32 = .ok (.iconst 0, 1) := by decide +kernel
theorem dX9_keeps_33 : decode cX9_keeps 33 = .ok (.invokevirtual 63, 3) := by decide +kernel
theorem dX9_keeps_36 : decode cX9_keeps 36 = .ok (.ireturn, 1) := by decide +kernel
theorem dX9_count_0 : decode cX9_count 0 = .ok (.iload_n 1, 1) := by decide +kernel
theorem dX9_count_1 : decode cX9_count 1 = .ok (.tableswitch 71 0 4 #[35, 40, 45, 53, 58], 35) := by decide +kernel
theorem dX9_count_36 : decode cX9_count 36 = .ok (.aload_n 0, 1) := by decide +kernel
theorem dX9_count_37 : decode cX9_count 37 = .ok (.getfield 15, 3) := by decide +kernel
theorem dX9_count_40 : decode cX9_count 40 = .ok (.ireturn, 1) := by decide +kernel
theorem dX9_count_41 : decode cX9_count 41 = .ok (.aload_n 0, 1) := by decide +kernel
theorem dX9_count_42 : decode cX9_count 42 = .ok (.getfield 27, 3) := by decide +kernel
theorem dX9_count_45 : decode cX9_count 45 = .ok (.ireturn, 1) := by decide +kernel
theorem dX9_count_46 : decode cX9_count 46 = .ok (.aload_n 0, 1) := by decide +kernel
theorem dX9_count_47 : decode cX9_count 47 = .ok (.getfield 33, 3) := by decide +kernel
theorem dX9_count_50 : decode cX9_count 50 = .ok (.getfield 168, 3) := by decide +kernel
theorem dX9_count_53 : decode cX9_count 53 = .ok (.ireturn, 1) := by decide +kernel
theorem dX9_count_54 : decode cX9_count 54 = .ok (.aload_n 0, 1) := by decide +kernel
theorem dX9_count_55 : decode cX9_count 55 = .ok (.getfield 37, 3) := by decide +kernel
theorem dX9_count_58 : decode cX9_count 58 = .ok (.ireturn, 1) := by decide +kernel
theorem dX9_count_59 : decode cX9_count 59 = .ok (.aload_n 0, 1) := by decide +kernel
theorem dX9_count_60 : decode cX9_count 60 = .ok (.getfield 19, 3) := by decide +kernel
theorem dX9_count_63 : decode cX9_count 63 = .ok (.ifCond .eq 7, 3) := by decide +kernel
theorem dX9_count_66 : decode cX9_count 66 = .ok (.iconst 1, 1) := by decide +kernel
theorem dX9_count_67 : decode cX9_count 67 = .ok (.goto 4, 3) := by decide +kernel
theorem dX9_count_70 : decode cX9_count 70 = .ok (.iconst 0, 1) := by decide +kernel
theorem dX9_count_71 : decode cX9_count 71 = .ok (.ireturn, 1) := by decide +kernel
theorem dX9_count_72 : decode cX9_count 72 = .ok (.iconst (-1), 1) := by decide +kernel
theorem dX9_count_73 : decode cX9_count 73 = .ok (.ireturn, 1) := by decide +kernel
theorem dX9_trace_0 : decode cX9_trace 0 = .ok (.iload_n 1, 1) := by decide +kernel
theorem dX9_trace_1 : decode cX9_trace 1 = .ok (.ifCond .lt 8, 3) := by decide +kernel
theorem dX9_trace_4 : decode cX9_trace 4 = .ok (.iload_n 1, 1) := by decide +kernel
theorem dX9_trace_5 : decode cX9_trace 5 = .ok (.iconst 5, 1) := by decide +kernel
theorem dX9_trace_6 : decode cX9_trace 6 = .ok (.if_icmp .lt 5, 3) := by decide +kernel
theorem dX9_trace_9 : decode cX9_trace 9 = .ok (.iconst (-1), 1) := by decide +kernel
theorem dX9_trace_10 : decode cX9_trace 10 = .ok (.ireturn, 1) := by decide +kernel
theorem dX9_trace_11 : decode cX9_trace 11 = .ok (.aload_n 0, 1) := by decide +kernel
theorem dX9_trace_12 : decode cX9_trace 12 = .ok (.getfield 43, 3) := by decide +kernel
theorem dX9_trace_15 : decode cX9_trace 15 = .ok (.iload_n 1, 1) := by decide +kernel
theorem dX9_trace_16 : decode cX9_trace 16 = .ok (.invokevirtual 204, 3) := by decide +kernel
theorem dX9_trace_19 : decode cX9_trace 19 = .ok (.ireturn, 1) := by decide +kernel
theorem dX9_status_0 : decode cX9_status 0 = .ok (.aload_n 0, 1) := by decide +kernel
theorem dX9_status_1 : decode cX9_status 1 = .ok (.getfield 54, 3) := by decide +kernel
theorem dX9_status_4 : decode cX9_status 4 = .ok (.ireturn, 1) := by decide +kernel
theorem dX9_clear_0 : decode cX9_clear 0 = .ok (.iconst 0, 1) := by decide +kernel
theorem dX9_clear_1 : decode cX9_clear 1 = .ok (.istore_n 1, 1) := by decide +kernel
theorem dX9_clear_2 : decode cX9_clear 2 = .ok (.iload_n 1, 1) := by decide +kernel
theorem dX9_clear_3 : decode cX9_clear 3 = .ok (.aload_n 0, 1) := by decide +kernel
theorem dX9_clear_4 : decode cX9_clear 4 = .ok (.getfield 11, 3) := by decide +kernel
theorem dX9_clear_7 : decode cX9_clear 7 = .ok (.arraylength, 1) := by decide +kernel
theorem dX9_clear_8 : decode cX9_clear 8 = .ok (.if_icmp .ge 16, 3) := by decide +kernel
theorem dX9_clear_11 : decode cX9_clear 11 = .ok (.aload_n 0, 1) := by decide +kernel
theorem dX9_clear_12 : decode cX9_clear 12 = .ok (.getfield 11, 3) := by decide +kernel
theorem dX9_clear_15 : decode cX9_clear 15 = .ok (.iload_n 1, 1) := by decide +kernel
theorem dX9_clear_16 : decode cX9_clear 16 = .ok (.aconst_null, 1) := by decide +kernel
theorem dX9_clear_17 : decode cX9_clear 17 = .ok (.aastore, 1) := by decide +kernel
theorem dX9_clear_18 : decode cX9_clear 18 = .ok (.iinc 1 1, 3) := by decide +kernel
theorem dX9_clear_21 : decode cX9_clear 21 = .ok (.goto (-19), 3) := by decide +kernel
theorem dX9_clear_24 : decode cX9_clear 24 = .ok (.aload_n 0, 1) := by decide +kernel
theorem dX9_clear_25 : decode cX9_clear 25 = .ok (.iconst 0, 1) := by decide +kernel
theorem dX9_clear_26 : decode cX9_clear 26 = .ok (.putfield 15, 3) := by decide +kernel
theorem dX9_clear_29 : decode cX9_clear 29 = .ok (.aload_n 0, 1) := by decide +kernel
theorem dX9_clear_30 : decode cX9_clear 30 = .ok (.iconst 0, 1) := by decide +kernel
theorem dX9_clear_31 : decode cX9_clear 31 = .ok (.putfield 19, 3) := by decide +kernel
theorem dX9_clear_34 : decode cX9_clear 34 = .ok (.aload_n 0, 1) := by decide +kernel
theorem dX9_clear_35 : decode cX9_clear 35 = .ok (.iconst 0, 1) := by decide +kernel
theorem dX9_clear_36 : decode cX9_clear 36 = .ok (.putfield 27, 3) := by decide +kernel
theorem dX9_clear_39 : decode cX9_clear 39 = .ok (.aload_n 0, 1) := by decide +kernel
theorem dX9_clear_40 : decode cX9_clear 40 = .ok (.getfield 33, 3) := by decide +kernel
theorem dX9_clear_43 : decode cX9_clear 43 = .ok (.iconst 0, 1) := by decide +kernel
theorem dX9_clear_44 : decode cX9_clear 44 = .ok (.putfield 168, 3) := by decide +kernel
theorem dX9_clear_47 : decode cX9_clear 47 = .ok (.aload_n 0, 1) := by decide +kernel
theorem dX9_clear_48 : decode cX9_clear 48 = .ok (.iconst (-1), 1) := by decide +kernel
theorem dX9_clear_49 : decode cX9_clear 49 = .ok (.putfield 37, 3) := by decide +kernel
theorem dX9_clear_52 : decode cX9_clear 52 = .ok (.aload_n 0, 1) := by decide +kernel
theorem dX9_clear_53 : decode cX9_clear 53 = .ok (.iconst 1, 1) := by decide +kernel
theorem dX9_clear_54 : decode cX9_clear 54 = .ok (.invokevirtual 63, 3) := by decide +kernel
theorem dX9_clear_57 : decode cX9_clear 57 = .ok (.ireturn, 1) := by decide +kernel
theorem dX9_refused_0 : decode cX9_refused 0 = .ok (.aload_n 0, 1) := by decide +kernel
theorem dX9_refused_1 : decode cX9_refused 1 = .ok (.iload_n 1, 1) := by decide +kernel
theorem dX9_refused_2 : decode cX9_refused 2 = .ok (.putfield 54, 3) := by decide +kernel
theorem dX9_refused_5 : decode cX9_refused 5 = .ok (.iload_n 1, 1) := by decide +kernel
theorem dX9_refused_6 : decode cX9_refused 6 = .ok (.ireturn, 1) := by decide +kernel
theorem dX9_refusedAmount_0 : decode cX9_refusedAmount 0 = .ok (.aload_n 0, 1) := by decide +kernel
theorem dX9_refusedAmount_1 : decode cX9_refusedAmount 1 = .ok (.iload_n 1, 1) := by decide +kernel
theorem dX9_refusedAmount_2 : decode cX9_refusedAmount 2 = .ok (.putfield 54, 3) := by decide +kernel
theorem dX9_refusedAmount_5 : decode cX9_refusedAmount 5 = .ok (.ldc2_w 207, 3) := by decide +kernel
theorem dX9_refusedAmount_8 : decode cX9_refusedAmount 8 = .ok (.lreturn, 1) := by decide +kernel
theorem dX9_granted_0 : decode cX9_granted 0 = .ok (.aload_n 0, 1) := by decide +kernel
theorem dX9_granted_1 : decode cX9_granted 1 = .ok (.iconst 0, 1) := by decide +kernel
theorem dX9_granted_2 : decode cX9_granted 2 = .ok (.putfield 54, 3) := by decide +kernel
theorem dX9_granted_5 : decode cX9_granted 5 = .ok (.iload_n 1, 1) := by decide +kernel
theorem dX9_granted_6 : decode cX9_granted 6 = .ok (.ireturn, 1) := by decide +kernel
theorem dX9_grantedAmount_0 : decode cX9_grantedAmount 0 = .ok (.aload_n 0, 1) := by decide +kernel
theorem dX9_grantedAmount_1 : decode cX9_grantedAmount 1 = .ok (.iconst 0, 1) := by decide +kernel
theorem dX9_grantedAmount_2 : decode cX9_grantedAmount 2 = .ok (.putfield 54, 3) := by decide +kernel
theorem dX9_grantedAmount_5 : decode cX9_grantedAmount 5 = .ok (.lload_n 1, 1) := by decide +kernel
theorem dX9_grantedAmount_6 : decode cX9_grantedAmount 6 = .ok (.lreturn, 1) := by decide +kernel
theorem dX9_curveNumbered_0 : decode cX9_curveNumbered 0 = .ok (.iload_n 1, 1) := by decide +kernel
theorem dX9_curveNumbered_1 : decode cX9_curveNumbered 1 = .ok (.ifCond .lt 20, 3) := by decide +kernel
theorem dX9_curveNumbered_4 : decode cX9_curveNumbered 4 = .ok (.iload_n 1, 1) := by decide +kernel
theorem dX9_curveNumbered_5 : decode cX9_curveNumbered 5 = .ok (.aload_n 0, 1) := by decide +kernel
theorem dX9_curveNumbered_6 : decode cX9_curveNumbered 6 = .ok (.getfield 15, 3) := by decide +kernel
theorem dX9_curveNumbered_9 : decode cX9_curveNumbered 9 = .ok (.if_icmp .ge 12, 3) := by decide +kernel
theorem dX9_curveNumbered_12 : decode cX9_curveNumbered 12 = .ok (.iload_n 1, 1) := by decide +kernel
theorem dX9_curveNumbered_13 : decode cX9_curveNumbered 13 = .ok (.aload_n 0, 1) := by decide +kernel
theorem dX9_curveNumbered_14 : decode cX9_curveNumbered 14 = .ok (.getfield 11, 3) := by decide +kernel
theorem dX9_curveNumbered_17 : decode cX9_curveNumbered 17 = .ok (.arraylength, 1) := by decide +kernel
theorem dX9_curveNumbered_18 : decode cX9_curveNumbered 18 = .ok (.if_icmp .lt 7, 3) := by decide +kernel
theorem dX9_curveNumbered_21 : decode cX9_curveNumbered 21 = .ok (.aconst_null, 1) := by decide +kernel
theorem dX9_curveNumbered_22 : decode cX9_curveNumbered 22 = .ok (.goto 9, 3) := by decide +kernel
theorem dX9_curveNumbered_25 : decode cX9_curveNumbered 25 = .ok (.aload_n 0, 1) := by decide +kernel
theorem dX9_curveNumbered_26 : decode cX9_curveNumbered 26 = .ok (.getfield 11, 3) := by decide +kernel
theorem dX9_curveNumbered_29 : decode cX9_curveNumbered 29 = .ok (.iload_n 1, 1) := by decide +kernel
theorem dX9_curveNumbered_30 : decode cX9_curveNumbered 30 = .ok (.aaload, 1) := by decide +kernel
theorem dX9_curveNumbered_31 : decode cX9_curveNumbered 31 = .ok (.areturn, 1) := by decide +kernel
theorem dX9_kept_0 : decode cX9_kept 0 = .ok (.aload_n 1, 1) := by decide +kernel
theorem dX9_kept_1 : decode cX9_kept 1 = .ok (.ifnonnull 10, 3) := by decide +kernel
theorem dX9_kept_4 : decode cX9_kept 4 = .ok (.aload_n 0, 1) := by decide +kernel
theorem dX9_kept_5 : decode cX9_kept 5 = .ok (.bipush (-4), 2) := by decide +kernel
theorem dX9_kept_7 : decode cX9_kept 7 = .ok (.invokevirtual 59, 3) := by decide +kernel
theorem dX9_kept_10 : decode cX9_kept 10 = .ok (.ireturn, 1) := by decide +kernel
theorem dX9_kept_11 : decode cX9_kept 11 = .ok (.aload_n 0, 1) := by decide +kernel
theorem dX9_kept_12 : decode cX9_kept 12 = .ok (.getfield 15, 3) := by decide +kernel
theorem dX9_kept_15 : decode cX9_kept 15 = .ok (.ifCond .lt 15, 3) := by decide +kernel
theorem dX9_kept_18 : decode cX9_kept 18 = .ok (.aload_n 0, 1) := by decide +kernel
theorem dX9_kept_19 : decode cX9_kept 19 = .ok (.getfield 15, 3) := by decide +kernel
theorem dX9_kept_22 : decode cX9_kept 22 = .ok (.aload_n 0, 1) := by decide +kernel
theorem dX9_kept_23 : decode cX9_kept 23 = .ok (.getfield 11, 3) := by decide +kernel
theorem dX9_kept_26 : decode cX9_kept 26 = .ok (.arraylength, 1) := by decide +kernel
theorem dX9_kept_27 : decode cX9_kept 27 = .ok (.if_icmp .lt 10, 3) := by decide +kernel
theorem dX9_kept_30 : decode cX9_kept 30 = .ok (.aload_n 0, 1) := by decide +kernel
theorem dX9_kept_31 : decode cX9_kept 31 = .ok (.bipush (-3), 2) := by decide +kernel
theorem dX9_kept_33 : decode cX9_kept 33 = .ok (.invokevirtual 59, 3) := by decide +kernel
theorem dX9_kept_36 : decode cX9_kept 36 = .ok (.ireturn, 1) := by decide +kernel
theorem dX9_kept_37 : decode cX9_kept 37 = .ok (.aload_n 0, 1) := by decide +kernel
theorem dX9_kept_38 : decode cX9_kept 38 = .ok (.getfield 11, 3) := by decide +kernel
theorem dX9_kept_41 : decode cX9_kept 41 = .ok (.aload_n 0, 1) := by decide +kernel
theorem dX9_kept_42 : decode cX9_kept 42 = .ok (.getfield 15, 3) := by decide +kernel
theorem dX9_kept_45 : decode cX9_kept 45 = .ok (.aload_n 1, 1) := by decide +kernel
theorem dX9_kept_46 : decode cX9_kept 46 = .ok (.aastore, 1) := by decide +kernel
theorem dX9_kept_47 : decode cX9_kept 47 = .ok (.aload_n 0, 1) := by decide +kernel
theorem dX9_kept_48 : decode cX9_kept 48 = .ok (.dup, 1) := by decide +kernel
theorem dX9_kept_49 : decode cX9_kept 49 = .ok (.getfield 15, 3) := by decide +kernel
theorem dX9_kept_52 : decode cX9_kept 52 = .ok (.iconst 1, 1) := by decide +kernel
theorem dX9_kept_53 : decode cX9_kept 53 = .ok (.iadd, 1) := by decide +kernel
theorem dX9_kept_54 : decode cX9_kept 54 = .ok (.putfield 15, 3) := by decide +kernel
theorem dX9_kept_57 : decode cX9_kept 57 = .ok (.aload_n 0, 1) := by decide +kernel
theorem dX9_kept_58 : decode cX9_kept 58 = .ok (.iconst 1, 1) := by decide +kernel
theorem dX9_kept_59 : decode cX9_kept 59 = .ok (.putfield 19, 3) := by decide +kernel
theorem dX9_kept_62 : decode cX9_kept 62 = .ok (.aload_n 0, 1) := by decide +kernel
theorem dX9_kept_63 : decode cX9_kept 63 = .ok (.aload_n 0, 1) := by decide +kernel
theorem dX9_kept_64 : decode cX9_kept 64 = .ok (.getfield 15, 3) := by decide +kernel
theorem dX9_kept_67 : decode cX9_kept 67 = .ok (.iconst 1, 1) := by decide +kernel
theorem dX9_kept_68 : decode cX9_kept 68 = .ok (.isub, 1) := by decide +kernel
theorem dX9_kept_69 : decode cX9_kept 69 = .ok (.invokevirtual 63, 3) := by decide +kernel
theorem dX9_kept_72 : decode cX9_kept 72 = .ok (.ireturn, 1) := by decide +kernel
theorem dX9_rowComesRound_0 : decode cX9_rowComesRound 0 = .ok (.aload_n 0, 1) := by decide +kernel
theorem dX9_rowComesRound_1 : decode cX9_rowComesRound 1 = .ok (.getfield 27, 3) := by decide +kernel
theorem dX9_rowComesRound_4 : decode cX9_rowComesRound 4 = .ok (.iload_n 1, 1) := by decide +kernel
theorem dX9_rowComesRound_5 : decode cX9_rowComesRound 5 = .ok (.isub, 1) := by decide +kernel
theorem dX9_rowComesRound_6 : decode cX9_rowComesRound 6 = .ok (.istore_n 3, 1) := by decide +kernel
theorem dX9_rowComesRound_7 : decode cX9_rowComesRound 7 = .ok (.iload_n 1, 1) := by decide +kernel
theorem dX9_rowComesRound_8 : decode cX9_rowComesRound 8 = .ok (.iconst 1, 1) := by decide +kernel
theorem dX9_rowComesRound_9 : decode cX9_rowComesRound 9 = .ok (.if_icmp .lt 19, 3) := by decide +kernel
theorem dX9_rowComesRound_12 : decode cX9_rowComesRound 12 = .ok (.iload_n 3, 1) := by decide +kernel
theorem dX9_rowComesRound_13 : decode cX9_rowComesRound 13 = .ok (.ifCond .lt 15, 3) := by decide +kernel
theorem dX9_rowComesRound_16 : decode cX9_rowComesRound 16 = .ok (.aload_n 0, 1) := by decide +kernel
theorem dX9_rowComesRound_17 : decode cX9_rowComesRound 17 = .ok (.getfield 27, 3) := by decide +kernel
theorem dX9_rowComesRound_20 : decode cX9_rowComesRound 20 = .ok (.aload_n 0, 1) := by decide +kernel
theorem dX9_rowComesRound_21 : decode cX9_rowComesRound 21 = .ok (.getfield 23, 3) := by decide +kernel
theorem dX9_rowComesRound_24 : decode cX9_rowComesRound 24 = .ok (.arraylength, 1) := by decide +kernel
theorem dX9_rowComesRound_25 : decode cX9_rowComesRound 25 = .ok (.if_icmp .le 5, 3) := by decide +kernel
theorem dX9_rowComesRound_28 : decode cX9_rowComesRound 28 = .ok (.iconst 0, 1) := by decide +kernel
theorem dX9_rowComesRound_29 : decode cX9_rowComesRound 29 = .ok (.ireturn, 1) := by decide +kernel
theorem dX9_rowComesRound_30 : decode cX9_rowComesRound 30 = .ok (.iconst 1, 1) := by decide +kernel
theorem dX9_rowComesRound_31 : decode cX9_rowComesRound 31 = .ok (.istore 4, 2) := by decide +kernel
theorem dX9_rowComesRound_33 : decode cX9_rowComesRound 33 = .ok (.iload 4, 2) := by decide +kernel
theorem dX9_rowComesRound_35 : decode cX9_rowComesRound 35 = .ok (.aload_n 0, 1) := by decide +kernel
theorem dX9_rowComesRound_36 : decode cX9_rowComesRound 36 = .ok (.getfield 27, 3) := by decide +kernel
theorem dX9_rowComesRound_39 : decode cX9_rowComesRound 39 = .ok (.if_icmp .ge 31, 3) := by decide +kernel
theorem dX9_rowComesRound_42 : decode cX9_rowComesRound 42 = .ok (.aload_n 0, 1) := by decide +kernel
theorem dX9_rowComesRound_43 : decode cX9_rowComesRound 43 = .ok (.getfield 23, 3) := by decide +kernel
theorem dX9_rowComesRound_46 : decode cX9_rowComesRound 46 = .ok (.iload 4, 2) := by decide +kernel
theorem dX9_rowComesRound_48 : decode cX9_rowComesRound 48 = .ok (.laload, 1) := by decide +kernel
theorem dX9_rowComesRound_49 : decode cX9_rowComesRound 49 = .ok (.aload_n 0, 1) := by decide +kernel
theorem dX9_rowComesRound_50 : decode cX9_rowComesRound 50 = .ok (.getfield 23, 3) := by decide +kernel
theorem dX9_rowComesRound_53 : decode cX9_rowComesRound 53 = .ok (.iload 4, 2) := by decide +kernel
theorem dX9_rowComesRound_55 : decode cX9_rowComesRound 55 = .ok (.iconst 1, 1) := by decide +kernel
theorem dX9_rowComesRound_56 : decode cX9_rowComesRound 56 = .ok (.isub, 1) := by decide +kernel
theorem dX9_rowComesRound_57 : decode cX9_rowComesRound 57 = .ok (.laload, 1) := by decide +kernel
theorem dX9_rowComesRound_58 : decode cX9_rowComesRound 58 = .ok (.lcmp, 1) := by decide +kernel
theorem dX9_rowComesRound_59 : decode cX9_rowComesRound 59 = .ok (.ifCond .ge 5, 3) := by decide +kernel
theorem dX9_rowComesRound_62 : decode cX9_rowComesRound 62 = .ok (.iconst 0, 1) := by decide +kernel
theorem dX9_rowComesRound_63 : decode cX9_rowComesRound 63 = .ok (.ireturn, 1) := by decide +kernel
theorem dX9_rowComesRound_64 : decode cX9_rowComesRound 64 = .ok (.iinc 4 1, 3) := by decide +kernel
theorem dX9_rowComesRound_67 : decode cX9_rowComesRound 67 = .ok (.goto (-34), 3) := by decide +kernel
theorem dX9_rowComesRound_70 : decode cX9_rowComesRound 70 = .ok (.aload_n 0, 1) := by decide +kernel
theorem dX9_rowComesRound_71 : decode cX9_rowComesRound 71 = .ok (.getfield 23, 3) := by decide +kernel
theorem dX9_rowComesRound_74 : decode cX9_rowComesRound 74 = .ok (.iload_n 3, 1) := by decide +kernel
theorem dX9_rowComesRound_75 : decode cX9_rowComesRound 75 = .ok (.laload, 1) := by decide +kernel
theorem dX9_rowComesRound_76 : decode cX9_rowComesRound 76 = .ok (.iload_n 2, 1) := by decide +kernel
theorem dX9_rowComesRound_77 : decode cX9_rowComesRound 77 = .ok (.i2l, 1) := by decide +kernel
theorem dX9_rowComesRound_78 : decode cX9_rowComesRound 78 = .ok (.ladd, 1) := by decide +kernel
theorem dX9_rowComesRound_79 : decode cX9_rowComesRound 79 = .ok (.aload_n 0, 1) := by decide +kernel
theorem dX9_rowComesRound_80 : decode cX9_rowComesRound 80 = .ok (.getfield 23, 3) := by decide +kernel
theorem dX9_rowComesRound_83 : decode cX9_rowComesRound 83 = .ok (.aload_n 0, 1) := by decide +kernel
theorem dX9_rowComesRound_84 : decode cX9_rowComesRound 84 = .ok (.getfield 27, 3) := by decide +kernel
theorem dX9_rowComesRound_87 : decode cX9_rowComesRound 87 = .ok (.iconst 1, 1) := by decide +kernel
theorem dX9_rowComesRound_88 : decode cX9_rowComesRound 88 = .ok (.isub, 1) := by decide +kernel
theorem dX9_rowComesRound_89 : decode cX9_rowComesRound 89 = .ok (.laload, 1) := by decide +kernel
theorem dX9_rowComesRound_90 : decode cX9_rowComesRound 90 = .ok (.lcmp, 1) := by decide +kernel
theorem dX9_rowComesRound_91 : decode cX9_rowComesRound 91 = .ok (.ifCond .lt 7, 3) := by decide +kernel
theorem dX9_rowComesRound_94 : decode cX9_rowComesRound 94 = .ok (.iconst 1, 1) := by decide +kernel
theorem dX9_rowComesRound_95 : decode cX9_rowComesRound 95 = .ok (.goto 4, 3) := by decide +kernel
theorem dX9_rowComesRound_98 : decode cX9_rowComesRound 98 = .ok (.iconst 0, 1) := by decide +kernel
theorem dX9_rowComesRound_99 : decode cX9_rowComesRound 99 = .ok (.ireturn, 1) := by decide +kernel
