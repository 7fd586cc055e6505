theorem dX0_init_0 : decode cX0_init 0 = .ok (.aload_n 0, 1) := by decide +kernel
theorem dX0_init_1 : decode cX0_init 1 = .ok (.invokespecial 1, 3) := by decide +kernel
theorem dX0_init_4 : decode cX0_init 4 = .ok (.aload_n 0, 1) := by decide +kernel
theorem dX0_init_5 : decode cX0_init 5 = .ok (.iload_n 1, 1) := by decide +kernel
theorem dX0_init_6 : decode cX0_init 6 = .ok (.putfield 7, 3) := by decide +kernel
theorem dX0_init_9 : decode cX0_init 9 = .ok (.aload_n 0, 1) := by decide +kernel
theorem dX0_init_10 : decode cX0_init 10 = .ok (.aload_n 2, 1) := by decide +kernel
theorem dX0_init_11 : decode cX0_init 11 = .ok (.putfield 13, 3) := by decide +kernel
theorem dX0_init_14 : decode cX0_init 14 = .ok (.aload_n 0, 1) := by decide +kernel
theorem dX0_init_15 : decode cX0_init 15 = .ok (.iload_n 3, 1) := by decide +kernel
theorem dX0_init_16 : decode cX0_init 16 = .ok (.putfield 17, 3) := by decide +kernel
theorem dX0_init_19 : decode cX0_init 19 = .ok (.aload_n 0, 1) := by decide +kernel
theorem dX0_init_20 : decode cX0_init 20 = .ok (.iload 4, 2) := by decide +kernel
theorem dX0_init_22 : decode cX0_init 22 = .ok (.putfield 20, 3) := by decide +kernel
theorem dX0_init_25 : decode cX0_init 25 = .ok (.aload_n 0, 1) := by decide +kernel
theorem dX0_init_26 : decode cX0_init 26 = .ok (.iload 5, 2) := by decide +kernel
theorem dX0_init_28 : decode cX0_init 28 = .ok (.putfield 23, 3) := by decide +kernel
theorem dX0_init_31 : decode cX0_init 31 = .ok (.aload_n 0, 1) := by decide +kernel
theorem dX0_init_32 : decode cX0_init 32 = .ok (.aload 6, 2) := by decide +kernel
theorem dX0_init_34 : decode cX0_init 34 = .ok (.putfield 27, 3) := by decide +kernel
theorem dX0_init_37 : decode cX0_init 37 = .ok (.return_, 1) := by decide +kernel
theorem dX0_isUnder_0 : decode cX0_isUnder 0 = .ok (.aload_n 0, 1) := by decide +kernel
theorem dX0_isUnder_1 : decode cX0_isUnder 1 = .ok (.astore_n 2, 1) := by decide +kernel
theorem dX0_isUnder_2 : decode cX0_isUnder 2 = .ok (.aload_n 2, 1) := by decide +kernel
theorem dX0_isUnder_3 : decode cX0_isUnder 3 = .ok (.ifnull 18, 3) := by decide +kernel
theorem dX0_isUnder_6 : decode cX0_isUnder 6 = .ok (.aload_n 2, 1) := by decide +kernel
theorem dX0_isUnder_7 : decode cX0_isUnder 7 = .ok (.aload_n 1, 1) := by decide +kernel
theorem dX0_isUnder_8 : decode cX0_isUnder 8 = .ok (.if_acmp .ne 5, 3) := by decide +kernel
theorem dX0_isUnder_11 : decode cX0_isUnder 11 = .ok (.iconst 1, 1) := by decide +kernel
theorem dX0_isUnder_12 : decode cX0_isUnder 12 = .ok (.ireturn, 1) := by decide +kernel
theorem dX0_isUnder_13 : decode cX0_isUnder 13 = .ok (.aload_n 2, 1) := by decide +kernel
theorem dX0_isUnder_14 : decode cX0_isUnder 14 = .ok (.getfield 13, 3) := by decide +kernel
theorem dX0_isUnder_17 : decode cX0_isUnder 17 = .ok (.astore_n 2, 1) := by decide +kernel
theorem dX0_isUnder_18 : decode cX0_isUnder 18 = .ok (.goto (-16), 3) := by decide +kernel
theorem dX0_isUnder_21 : decode cX0_isUnder 21 = .ok (.iconst 0, 1) := by decide +kernel
theorem dX0_isUnder_22 : decode cX0_isUnder 22 = .ok (.ireturn, 1) := by decide +kernel
theorem dX1_init_0 : decode cX1_init 0 = .ok (.aload_n 0, 1) := by decide +kernel
theorem dX1_init_1 : decode cX1_init 1 = .ok (.invokespecial 3, 3) := by decide +kernel
theorem dX1_init_4 : decode cX1_init 4 = .ok (.aload_n 0, 1) := by decide +kernel
theorem dX1_init_5 : decode cX1_init 5 = .ok (.new 9, 3) := by decide +kernel
theorem dX1_init_8 : decode cX1_init 8 = .ok (.dup, 1) := by decide +kernel
theorem dX1_init_9 : decode cX1_init 9 = .ok (.invokespecial 11, 3) := by decide +kernel
theorem dX1_init_12 : decode cX1_init 12 = .ok (.putfield 12, 3) := by decide +kernel
theorem dX1_init_15 : decode cX1_init 15 = .ok (.aload_n 0, 1) := by decide +kernel
theorem dX1_init_16 : decode cX1_init 16 = .ok (.iload_n 1, 1) := by decide +kernel
theorem dX1_init_17 : decode cX1_init 17 = .ok (.putfield 18, 3) := by decide +kernel
theorem dX1_init_20 : decode cX1_init 20 = .ok (.aload_n 0, 1) := by decide +kernel
theorem dX1_init_21 : decode cX1_init 21 = .ok (.iload_n 2, 1) := by decide +kernel
theorem dX1_init_22 : decode cX1_init 22 = .ok (.putfield 22, 3) := by decide +kernel
theorem dX1_init_25 : decode cX1_init 25 = .ok (.return_, 1) := by decide +kernel
theorem dX1_firstWrong_0 : decode cX1_firstWrong 0 = .ok (.iconst 1, 1) := by decide +kernel
theorem dX1_firstWrong_1 : decode cX1_firstWrong 1 = .ok (.istore_n 2, 1) := by decide +kernel
theorem dX1_firstWrong_2 : decode cX1_firstWrong 2 = .ok (.aload_n 1, 1) := by decide +kernel
theorem dX1_firstWrong_3 : decode cX1_firstWrong 3 = .ok (.invokevirtual 25, 3) := by decide +kernel
theorem dX1_firstWrong_6 : decode cX1_firstWrong 6 = .ok (.iconst 0, 1) := by decide +kernel
theorem dX1_firstWrong_7 : decode cX1_firstWrong 7 = .ok (.istore_n 3, 1) := by decide +kernel
theorem dX1_firstWrong_8 : decode cX1_firstWrong 8 = .ok (.iload_n 3, 1) := by decide +kernel
theorem dX1_firstWrong_9 : decode cX1_firstWrong 9 = .ok (.sipush 400, 3) := by decide +kernel
theorem dX1_firstWrong_12 : decode cX1_firstWrong 12 = .ok (.if_icmp .ge 94, 3) := by decide +kernel
theorem dX1_firstWrong_15 : decode cX1_firstWrong 15 = .ok (.aload_n 0, 1) := by decide +kernel
theorem dX1_firstWrong_16 : decode cX1_firstWrong 16 = .ok (.invokevirtual 30, 3) := by decide +kernel
theorem dX1_firstWrong_19 : decode cX1_firstWrong 19 = .ok (.ifCond .eq 87, 3) := by decide +kernel
theorem dX1_firstWrong_22 : decode cX1_firstWrong 22 = .ok (.aload_n 0, 1) := by decide +kernel
theorem dX1_firstWrong_23 : decode cX1_firstWrong 23 = .ok (.invokevirtual 36, 3) := by decide +kernel
theorem dX1_firstWrong_26 : decode cX1_firstWrong 26 = .ok (.ifCond .eq 53, 3) := by decide +kernel
theorem dX1_firstWrong_29 : decode cX1_firstWrong 29 = .ok (.iload_n 2, 1) := by decide +kernel
theorem dX1_firstWrong_30 : decode cX1_firstWrong 30 = .ok (.ifCond .eq 23, 3) := by decide +kernel
theorem dX1_firstWrong_33 : decode cX1_firstWrong 33 = .ok (.aload_n 1, 1) := by decide +kernel
theorem dX1_firstWrong_34 : decode cX1_firstWrong 34 = .ok (.getfield 39, 3) := by decide +kernel
theorem dX1_firstWrong_37 : decode cX1_firstWrong 37 = .ok (.bipush 6, 2) := by decide +kernel
theorem dX1_firstWrong_39 : decode cX1_firstWrong 39 = .ok (.if_icmp .lt 8, 3) := by decide +kernel
theorem dX1_firstWrong_42 : decode cX1_firstWrong 42 = .ok (.aload_n 0, 1) := by decide +kernel
theorem dX1_firstWrong_43 : decode cX1_firstWrong 43 = .ok (.getfield 42, 3) := by decide +kernel
theorem dX1_firstWrong_46 : decode cX1_firstWrong 46 = .ok (.ireturn, 1) := by decide +kernel
theorem dX1_firstWrong_47 : decode cX1_firstWrong 47 = .ok (.aload_n 1, 1) := by decide +kernel
theorem dX1_firstWrong_48 : decode cX1_firstWrong 48 = .ok (.invokevirtual 45, 3) := by decide +kernel
theorem dX1_firstWrong_51 : decode cX1_firstWrong 51 = .ok (.iconst 0, 1) := by decide +kernel
theorem dX1_firstWrong_52 : decode cX1_firstWrong 52 = .ok (.istore_n 2, 1) := by decide +kernel
theorem dX1_firstWrong_53 : decode cX1_firstWrong 53 = .ok (.aload_n 1, 1) := by decide +kernel
theorem dX1_firstWrong_54 : decode cX1_firstWrong 54 = .ok (.getfield 48, 3) := by decide +kernel
theorem dX1_firstWrong_57 : decode cX1_firstWrong 57 = .ok (.bipush 60, 2) := by decide +kernel
theorem dX1_firstWrong_59 : decode cX1_firstWrong 59 = .ok (.if_icmp .lt 8, 3) := by decide +kernel
theorem dX1_firstWrong_62 : decode cX1_firstWrong 62 = .ok (.aload_n 0, 1) := by decide +kernel
theorem dX1_firstWrong_63 : decode cX1_firstWrong 63 = .ok (.getfield 42, 3) := by decide +kernel
theorem dX1_firstWrong_66 : decode cX1_firstWrong 66 = .ok (.ireturn, 1) := by decide +kernel
theorem dX1_firstWrong_67 : decode cX1_firstWrong 67 = .ok (.aload_n 1, 1) := by decide +kernel
theorem dX1_firstWrong_68 : decode cX1_firstWrong 68 = .ok (.aload_n 0, 1) := by decide +kernel
theorem dX1_firstWrong_69 : decode cX1_firstWrong 69 = .ok (.invokevirtual 51, 3) := by decide +kernel
theorem dX1_firstWrong_72 : decode cX1_firstWrong 72 = .ok (.iconst 0, 1) := by decide +kernel
theorem dX1_firstWrong_73 : decode cX1_firstWrong 73 = .ok (.invokevirtual 55, 3) := by decide +kernel
theorem dX1_firstWrong_76 : decode cX1_firstWrong 76 = .ok (.goto 24, 3) := by decide +kernel
theorem dX1_firstWrong_79 : decode cX1_firstWrong 79 = .ok (.aload_n 0, 1) := by decide +kernel
theorem dX1_firstWrong_80 : decode cX1_firstWrong 80 = .ok (.invokevirtual 59, 3) := by decide +kernel
theorem dX1_firstWrong_83 : decode cX1_firstWrong 83 = .ok (.ifCond .eq 12, 3) := by decide +kernel
theorem dX1_firstWrong_86 : decode cX1_firstWrong 86 = .ok (.iload_n 2, 1) := by decide +kernel
theorem dX1_firstWrong_87 : decode cX1_firstWrong 87 = .ok (.ifCond .ne 8, 3) := by decide +kernel
theorem dX1_firstWrong_90 : decode cX1_firstWrong 90 = .ok (.iconst 1, 1) := by decide +kernel
theorem dX1_firstWrong_91 : decode cX1_firstWrong 91 = .ok (.istore_n 2, 1) := by decide +kernel
theorem dX1_firstWrong_92 : decode cX1_firstWrong 92 = .ok (.goto 8, 3) := by decide +kernel
theorem dX1_firstWrong_95 : decode cX1_firstWrong 95 = .ok (.aload_n 0, 1) := by decide +kernel
theorem dX1_firstWrong_96 : decode cX1_firstWrong 96 = .ok (.getfield 42, 3) := by decide +kernel
theorem dX1_firstWrong_99 : decode cX1_firstWrong 99 = .ok (.ireturn, 1) := by decide +kernel
theorem dX1_firstWrong_100 : decode cX1_firstWrong 100 = .ok (.iinc 3 1, 3) := by decide +kernel
theorem dX1_firstWrong_103 : decode cX1_firstWrong 103 = .ok (.goto (-95), 3) := by decide +kernel
theorem dX1_firstWrong_106 : decode cX1_firstWrong 106 = .ok (.aload_n 1, 1) := by decide +kernel
theorem dX1_firstWrong_107 : decode cX1_firstWrong 107 = .ok (.getfield 48, 3) := by decide +kernel
theorem dX1_firstWrong_110 : decode cX1_firstWrong 110 = .ok (.ifCond .ne 10, 3) := by decide +kernel
theorem dX1_firstWrong_113 : decode cX1_firstWrong 113 = .ok (.aload_n 0, 1) := by decide +kernel
theorem dX1_firstWrong_114 : decode cX1_firstWrong 114 = .ok (.getfield 62, 3) := by decide +kernel
theorem dX1_firstWrong_117 : decode cX1_firstWrong 117 = .ok (.goto 4, 3) := by decide +kernel
theorem dX1_firstWrong_120 : decode cX1_firstWrong 120 = .ok (.iconst (-1), 1) := by decide +kernel
theorem dX1_firstWrong_121 : decode cX1_firstWrong 121 = .ok (.ireturn, 1) := by decide +kernel
theorem dX1_pointAt_0 : decode cX1_pointAt 0 = .ok (.iload_n 1, 1) := by decide +kernel
theorem dX1_pointAt_1 : decode cX1_pointAt 1 = .ok (.ifCond .lt 14, 3) := by decide +kernel
theorem dX1_pointAt_4 : decode cX1_pointAt 4 = .ok (.iload_n 1, 1) := by decide +kernel
theorem dX1_pointAt_5 : decode cX1_pointAt 5 = .ok (.aload_n 0, 1) := by decide +kernel
theorem dX1_pointAt_6 : decode cX1_pointAt 6 = .ok (.getfield 12, 3) := by decide +kernel
theorem dX1_pointAt_9 : decode cX1_pointAt 9 = .ok (.invokevirtual 65, 3) := by decide +kernel
theorem dX1_pointAt_12 : decode cX1_pointAt 12 = .ok (.if_icmp .lt 13, 3) := by decide +kernel
theorem dX1_pointAt_15 : decode cX1_pointAt 15 = .ok (.new 68, 3) := by decide +kernel
theorem dX1_pointAt_18 : decode cX1_pointAt 18 = .ok (.dup, 1) := by decide +kernel
theorem dX1_pointAt_19 : decode cX1_pointAt 19 = .ok (.ldc 70, 2) := by decide +kernel
theorem dX1_pointAt_21 : decode cX1_pointAt 21 = .ok (.invokespecial 72, 3) := by decide +kernel
theorem dX1_pointAt_24 : decode cX1_pointAt 24 = .ok (.athrow, 1) := by decide +kernel
theorem dX1_pointAt_25 : decode cX1_pointAt 25 = .ok (.aload_n 0, 1) := by decide +kernel
theorem dX1_pointAt_26 : decode cX1_pointAt 26 = .ok (.getfield 12, 3) := by decide +kernel
theorem dX1_pointAt_29 : decode cX1_pointAt 29 = .ok (.iload_n 1, 1) := by decide +kernel
theorem dX1_pointAt_30 : decode cX1_pointAt 30 = .ok (.invokevirtual 75, 3) := by decide +kernel
theorem dX1_pointAt_33 : decode cX1_pointAt 33 = .ok (.checkcast 79, 3) := by decide +kernel
theorem dX1_pointAt_36 : decode cX1_pointAt 36 = .ok (.areturn, 1) := by decide +kernel
theorem dX1_isClosed_0 : decode cX1_isClosed 0 = .ok (.iconst 0, 1) := by decide +kernel
theorem dX1_isClosed_1 : decode cX1_isClosed 1 = .ok (.istore_n 1, 1) := by decide +kernel
theorem dX1_isClosed_2 : decode cX1_isClosed 2 = .ok (.iload_n 1, 1) := by decide +kernel
theorem dX1_isClosed_3 : decode cX1_isClosed 3 = .ok (.aload_n 0, 1) := by decide +kernel
theorem dX1_isClosed_4 : decode cX1_isClosed 4 = .ok (.getfield 12, 3) := by decide +kernel
theorem dX1_isClosed_7 : decode cX1_isClosed 7 = .ok (.invokevirtual 65, 3) := by decide +kernel
theorem dX1_isClosed_10 : decode cX1_isClosed 10 = .ok (.if_icmp .ge 28, 3) := by decide +kernel
theorem dX1_isClosed_13 : decode cX1_isClosed 13 = .ok (.aload_n 0, 1) := by decide +kernel
theorem dX1_isClosed_14 : decode cX1_isClosed 14 = .ok (.getfield 12, 3) := by decide +kernel
theorem dX1_isClosed_17 : decode cX1_isClosed 17 = .ok (.iload_n 1, 1) := by decide +kernel
theorem dX1_isClosed_18 : decode cX1_isClosed 18 = .ok (.invokevirtual 75, 3) := by decide +kernel
theorem dX1_isClosed_21 : decode cX1_isClosed 21 = .ok (.checkcast 79, 3) := by decide +kernel
theorem dX1_isClosed_24 : decode cX1_isClosed 24 = .ok (.invokevirtual 81, 3) := by decide +kernel
theorem dX1_isClosed_27 : decode cX1_isClosed 27 = .ok (.ifCond .ne 5, 3) := by decide +kernel
theorem dX1_isClosed_30 : decode cX1_isClosed 30 = .ok (.iconst 0, 1) := by decide +kernel
theorem dX1_isClosed_31 : decode cX1_isClosed 31 = .ok (.ireturn, 1) := by decide +kernel
theorem dX1_isClosed_32 : decode cX1_isClosed 32 = .ok (.iinc 1 1, 3) := by decide +kernel
theorem dX1_isClosed_35 : decode cX1_isClosed 35 = .ok (.goto (-33), 3) := by decide +kernel
theorem dX1_isClosed_38 : decode cX1_isClosed 38 = .ok (.iconst 1, 1) := by decide +kernel
theorem dX1_isClosed_39 : decode cX1_isClosed 39 = .ok (.ireturn, 1) := by decide +kernel
theorem dX1_causeBits_0 : decode cX1_causeBits 0 = .ok (.iconst 0, 1) := by decide +kernel
theorem dX1_causeBits_1 : decode cX1_causeBits 1 = .ok (.istore_n 1, 1) := by decide +kernel
theorem dX1_causeBits_2 : decode cX1_causeBits 2 = .ok (.iconst 0, 1) := by decide +kernel
theorem dX1_causeBits_3 : decode cX1_causeBits 3 = .ok (.istore_n 2, 1) := by decide +kernel
theorem dX1_causeBits_4 : decode cX1_causeBits 4 = .ok (.iload_n 2, 1) := by decide +kernel
theorem dX1_causeBits_5 : decode cX1_causeBits 5 = .ok (.aload_n 0, 1) := by decide +kernel
theorem dX1_causeBits_6 : decode cX1_causeBits 6 = .ok (.getfield 12, 3) := by decide +kernel
theorem dX1_causeBits_9 : decode cX1_causeBits 9 = .ok (.invokevirtual 65, 3) := by decide +kernel
theorem dX1_causeBits_12 : decode cX1_causeBits 12 = .ok (.if_icmp .ge 39, 3) := by decide +kernel
theorem dX1_causeBits_15 : decode cX1_causeBits 15 = .ok (.aload_n 0, 1) := by decide +kernel
theorem dX1_causeBits_16 : decode cX1_causeBits 16 = .ok (.getfield 12, 3) := by decide +kernel
theorem dX1_causeBits_19 : decode cX1_causeBits 19 = .ok (.iload_n 2, 1) := by decide +kernel
theorem dX1_causeBits_20 : decode cX1_causeBits 20 = .ok (.invokevirtual 75, 3) := by decide +kernel
theorem dX1_causeBits_23 : decode cX1_causeBits 23 = .ok (.checkcast 79, 3) := by decide +kernel
theorem dX1_causeBits_26 : decode cX1_causeBits 26 = .ok (.getfield 84, 3) := by decide +kernel
theorem dX1_causeBits_29 : decode cX1_causeBits 29 = .ok (.astore_n 3, 1) := by decide +kernel
theorem dX1_causeBits_30 : decode cX1_causeBits 30 = .ok (.aload_n 3, 1) := by decide +kernel
theorem dX1_causeBits_31 : decode cX1_causeBits 31 = .ok (.ifnonnull 5, 3) := by decide +kernel
theorem dX1_causeBits_34 : decode cX1_causeBits 34 = .ok (.iconst (-1), 1) := by decide +kernel
theorem dX1_causeBits_35 : decode cX1_causeBits 35 = .ok (.ireturn, 1) := by decide +kernel
theorem dX1_causeBits_36 : decode cX1_causeBits 36 = .ok (.iload_n 1, 1) := by decide +kernel
theorem dX1_causeBits_37 : decode cX1_causeBits 37 = .ok (.iconst 1, 1) := by decide +kernel
theorem dX1_causeBits_38 : decode cX1_causeBits 38 = .ok (.aload_n 3, 1) := by decide +kernel
theorem dX1_causeBits_39 : decode cX1_causeBits 39 = .ok (.getfield 88, 3) := by decide +kernel
theorem dX1_causeBits_42 : decode cX1_causeBits 42 = .ok (.ishl, 1) := by decide +kernel
theorem dX1_causeBits_43 : decode cX1_causeBits 43 = .ok (.ior, 1) := by decide +kernel
theorem dX1_causeBits_44 : decode cX1_causeBits 44 = .ok (.istore_n 1, 1) := by decide +kernel
theorem dX1_causeBits_45 : decode cX1_causeBits 45 = .ok (.iinc 2 1, 3) := by decide +kernel
theorem dX1_causeBits_48 : decode cX1_causeBits 48 = .ok (.goto (-44), 3) := by decide +kernel
theorem dX1_causeBits_51 : decode cX1_causeBits 51 = .ok (.iload_n 1, 1) := by decide +kernel
theorem dX1_causeBits_52 : decode cX1_causeBits 52 = .ok (.ireturn, 1) := by decide +kernel
theorem dX1_pointsUnder_0 : decode cX1_pointsUnder 0 = .ok (.iconst 0, 1) := by decide +kernel
theorem dX1_pointsUnder_1 : decode cX1_pointsUnder 1 = .ok (.istore_n 2, 1) := by decide +kernel
theorem dX1_pointsUnder_2 : decode cX1_pointsUnder 2 = .ok (.iconst 0, 1) := by decide +kernel
theorem dX1_pointsUnder_3 : decode cX1_pointsUnder 3 = .ok (.istore_n 3, 1) := by decide +kernel
theorem dX1_pointsUnder_4 : decode cX1_pointsUnder 4 = .ok (.iload_n 3, 1) := by decide +kernel
theorem dX1_pointsUnder_5 : decode cX1_pointsUnder 5 = .ok (.aload_n 0, 1) := by decide +kernel
theorem dX1_pointsUnder_6 : decode cX1_pointsUnder 6 = .ok (.getfield 12, 3) := by decide +kernel
theorem dX1_pointsUnder_9 : decode cX1_pointsUnder 9 = .ok (.invokevirtual 65, 3) := by decide +kernel
theorem dX1_pointsUnder_12 : decode cX1_pointsUnder 12 = .ok (.if_icmp .ge 42, 3) := by decide +kernel
theorem dX1_pointsUnder_15 : decode cX1_pointsUnder 15 = .ok (.aload_n 0, 1) := by decide +kernel
theorem dX1_pointsUnder_16 : decode cX1_pointsUnder 16 = .ok (.getfield 12, 3) := by decide +kernel
theorem dX1_pointsUnder_19 : decode cX1_pointsUnder 19 = .ok (.iload_n 3, 1) := by decide +kernel
theorem dX1_pointsUnder_20 : decode cX1_pointsUnder 20 = .ok (.invokevirtual 75, 3) := by decide +kernel
theorem dX1_pointsUnder_23 : decode cX1_pointsUnder 23 = .ok (.checkcast 79, 3) := by decide +kernel
theorem dX1_pointsUnder_26 : decode cX1_pointsUnder 26 = .ok (.getfield 84, 3) := by decide +kernel
theorem dX1_pointsUnder_29 : decode cX1_pointsUnder 29 = .ok (.astore 4, 2) := by decide +kernel
theorem dX1_pointsUnder_31 : decode cX1_pointsUnder 31 = .ok (.aload 4, 2) := by decide +kernel
theorem dX1_pointsUnder_33 : decode cX1_pointsUnder 33 = .ok (.ifnull 15, 3) := by decide +kernel
theorem dX1_pointsUnder_36 : decode cX1_pointsUnder 36 = .ok (.aload 4, 2) := by decide +kernel
theorem dX1_pointsUnder_38 : decode cX1_pointsUnder 38 = .ok (.aload_n 1, 1) := by decide +kernel
theorem dX1_pointsUnder_39 : decode cX1_pointsUnder 39 = .ok (.invokevirtual 93, 3) := by decide +kernel
theorem dX1_pointsUnder_42 : decode cX1_pointsUnder 42 = .ok (.ifCond .eq 6, 3) := by decide +kernel
theorem dX1_pointsUnder_45 : decode cX1_pointsUnder 45 = .ok (.iinc 2 1, 3) := by decide +kernel
theorem dX1_pointsUnder_48 : decode cX1_pointsUnder 48 = .ok (.iinc 3 1, 3) := by decide +kernel
theorem dX1_pointsUnder_51 : decode cX1_pointsUnder 51 = .ok (.goto (-47), 3) := by decide +kernel
theorem dX1_pointsUnder_54 : decode cX1_pointsUnder 54 = .ok (.iload_n 2, 1) := by decide +kernel
theorem dX1_pointsUnder_55 : decode cX1_pointsUnder 55 = .ok (.ireturn, 1) := by decide +kernel
theorem dX2_init_0 : decode cX2_init 0 = .ok (.aload_n 0, 1) := by decide +kernel
theorem dX2_init_1 : decode cX2_init 1 = .ok (.invokespecial 3, 3) := by decide +kernel
theorem dX2_init_4 : decode cX2_init 4 = .ok (.aload_n 0, 1) := by decide +kernel
theorem dX2_init_5 : decode cX2_init 5 = .ok (.aload_n 1, 1) := by decide +kernel
theorem dX2_init_6 : decode cX2_init 6 = .ok (.getfield 9, 3) := by decide +kernel
theorem dX2_init_9 : decode cX2_init 9 = .ok (.aload_n 1, 1) := by decide +kernel
theorem dX2_init_10 : decode cX2_init 10 = .ok (.getfield 15, 3) := by decide +kernel
theorem dX2_init_13 : decode cX2_init 13 = .ok (.invokestatic 19, 3) := by decide +kernel
theorem dX2_init_16 : decode cX2_init 16 = .ok (.putfield 25, 3) := by decide +kernel
theorem dX2_init_19 : decode cX2_init 19 = .ok (.aload_n 0, 1) := by decide +kernel
theorem dX2_init_20 : decode cX2_init 20 = .ok (.aload_n 1, 1) := by decide +kernel
theorem dX2_init_21 : decode cX2_init 21 = .ok (.getfield 28, 3) := by decide +kernel
theorem dX2_init_24 : decode cX2_init 24 = .ok (.aload_n 1, 1) := by decide +kernel
theorem dX2_init_25 : decode cX2_init 25 = .ok (.getfield 15, 3) := by decide +kernel
theorem dX2_init_28 : decode cX2_init 28 = .ok (.invokestatic 32, 3) := by decide +kernel
theorem dX2_init_31 : decode cX2_init 31 = .ok (.putfield 35, 3) := by decide +kernel
theorem dX2_init_34 : decode cX2_init 34 = .ok (.aload_n 0, 1) := by decide +kernel
theorem dX2_init_35 : decode cX2_init 35 = .ok (.aload_n 1, 1) := by decide +kernel
theorem dX2_init_36 : decode cX2_init 36 = .ok (.getfield 38, 3) := by decide +kernel
theorem dX2_init_39 : decode cX2_init 39 = .ok (.putfield 41, 3) := by decide +kernel
theorem dX2_init_42 : decode cX2_init 42 = .ok (.return_, 1) := by decide +kernel
theorem dX2_firstWrong_0 : decode cX2_firstWrong 0 = .ok (.iconst 1, 1) := by decide +kernel
theorem dX2_firstWrong_1 : decode cX2_firstWrong 1 = .ok (.istore_n 2, 1) := by decide +kernel
theorem dX2_firstWrong_2 : decode cX2_firstWrong 2 = .ok (.iconst 0, 1) := by decide +kernel
theorem dX2_firstWrong_3 : decode cX2_firstWrong 3 = .ok (.istore_n 3, 1) := by decide +kernel
theorem dX2_firstWrong_4 : decode cX2_firstWrong 4 = .ok (.aload_n 1, 1) := by decide +kernel
theorem dX2_firstWrong_5 : decode cX2_firstWrong 5 = .ok (.invokevirtual 42, 3) := by decide +kernel
theorem dX2_firstWrong_8 : decode cX2_firstWrong 8 = .ok (.aload_n 1, 1) := by decide +kernel
theorem dX2_firstWrong_9 : decode cX2_firstWrong 9 = .ok (.invokevirtual 45, 3) := by decide +kernel
theorem dX2_firstWrong_12 : decode cX2_firstWrong 12 = .ok (.iconst 0, 1) := by decide +kernel
theorem dX2_firstWrong_13 : decode cX2_firstWrong 13 = .ok (.istore 4, 2) := by decide +kernel
theorem dX2_firstWrong_15 : decode cX2_firstWrong 15 = .ok (.iload 4, 2) := by decide +kernel
theorem dX2_firstWrong_17 : decode cX2_firstWrong 17 = .ok (.sipush 400, 3) := by decide +kernel
theorem dX2_firstWrong_20 : decode cX2_firstWrong 20 = .ok (.if_icmp .ge 118, 3) := by decide +kernel
theorem dX2_firstWrong_23 : decode cX2_firstWrong 23 = .ok (.aload_n 0, 1) := by decide +kernel
theorem dX2_firstWrong_24 : decode cX2_firstWrong 24 = .ok (.invokevirtual 48, 3) := by decide +kernel
theorem dX2_firstWrong_27 : decode cX2_firstWrong 27 = .ok (.ifCond .eq 111, 3) := by decide +kernel
theorem dX2_firstWrong_30 : decode cX2_firstWrong 30 = .ok (.aload_n 0, 1) := by decide +kernel
theorem dX2_firstWrong_31 : decode cX2_firstWrong 31 = .ok (.invokevirtual 54, 3) := by decide +kernel
theorem dX2_firstWrong_34 : decode cX2_firstWrong 34 = .ok (.lstore 5, 2) := by decide +kernel
theorem dX2_firstWrong_36 : decode cX2_firstWrong 36 = .ok (.iload_n 2, 1) := by decide +kernel
theorem dX2_firstWrong_37 : decode cX2_firstWrong 37 = .ok (.ifCond .ne 44, 3) := by decide +kernel
theorem dX2_firstWrong_40 : decode cX2_firstWrong 40 = .ok (.lload 5, 2) := by decide +kernel
theorem dX2_firstWrong_42 : decode cX2_firstWrong 42 = .ok (.ldc2_w 58, 3) := by decide +kernel
theorem dX2_firstWrong_45 : decode cX2_firstWrong 45 = .ok (.lcmp, 1) := by decide +kernel
theorem dX2_firstWrong_46 : decode cX2_firstWrong 46 = .ok (.ifCond .eq 17, 3) := by decide +kernel
theorem dX2_firstWrong_49 : decode cX2_firstWrong 49 = .ok (.lload 5, 2) := by decide +kernel
theorem dX2_firstWrong_51 : decode cX2_firstWrong 51 = .ok (.ldc2_w 60, 3) := by decide +kernel
theorem dX2_firstWrong_54 : decode cX2_firstWrong 54 = .ok (.lcmp, 1) := by decide +kernel
theorem dX2_firstWrong_55 : decode cX2_firstWrong 55 = .ok (.ifCond .eq 8, 3) := by decide +kernel
theorem dX2_firstWrong_58 : decode cX2_firstWrong 58 = .ok (.aload_n 0, 1) := by decide +kernel
theorem dX2_firstWrong_59 : decode cX2_firstWrong 59 = .ok (.getfield 62, 3) := by decide +kernel
theorem dX2_firstWrong_62 : decode cX2_firstWrong 62 = .ok (.ireturn, 1) := by decide +kernel
theorem dX2_firstWrong_63 : decode cX2_firstWrong 63 = .ok (.lload 5, 2) := by decide +kernel
theorem dX2_firstWrong_65 : decode cX2_firstWrong 65 = .ok (.ldc2_w 60, 3) := by decide +kernel
theorem dX2_firstWrong_68 : decode cX2_firstWrong 68 = .ok (.lcmp, 1) := by decide +kernel
theorem dX2_firstWrong_69 : decode cX2_firstWrong 69 = .ok (.ifCond .ne 7, 3) := by decide +kernel
theorem dX2_firstWrong_72 : decode cX2_firstWrong 72 = .ok (.aload_n 1, 1) := by decide +kernel
theorem dX2_firstWrong_73 : decode cX2_firstWrong 73 = .ok (.invokevirtual 45, 3) := by decide +kernel
theorem dX2_firstWrong_76 : decode cX2_firstWrong 76 = .ok (.iconst 1, 1) := by decide +kernel
theorem dX2_firstWrong_77 : decode cX2_firstWrong 77 = .ok (.istore_n 2, 1) := by decide +kernel
theorem dX2_firstWrong_78 : decode cX2_firstWrong 78 = .ok (.goto 54, 3) := by decide +kernel
theorem dX2_firstWrong_81 : decode cX2_firstWrong 81 = .ok (.lload 5, 2) := by decide +kernel
theorem dX2_firstWrong_83 : decode cX2_firstWrong 83 = .ok (.ldc2_w 65, 3) := by decide +kernel
theorem dX2_firstWrong_86 : decode cX2_firstWrong 86 = .ok (.lcmp, 1) := by decide +kernel
theorem dX2_firstWrong_87 : decode cX2_firstWrong 87 = .ok (.ifCond .ne 12, 3) := by decide +kernel
theorem dX2_firstWrong_90 : decode cX2_firstWrong 90 = .ok (.iload_n 3, 1) := by decide +kernel
theorem dX2_firstWrong_91 : decode cX2_firstWrong 91 = .ok (.ifCond .ne 8, 3) := by decide +kernel
theorem dX2_firstWrong_94 : decode cX2_firstWrong 94 = .ok (.iconst 1, 1) := by decide +kernel
theorem dX2_firstWrong_95 : decode cX2_firstWrong 95 = .ok (.istore_n 3, 1) := by decide +kernel
theorem dX2_firstWrong_96 : decode cX2_firstWrong 96 = .ok (.goto 36, 3) := by decide +kernel
theorem dX2_firstWrong_99 : decode cX2_firstWrong 99 = .ok (.lload 5, 2) := by decide +kernel
theorem dX2_firstWrong_101 : decode cX2_firstWrong 101 = .ok (.invokestatic 67, 3) := by decide +kernel
theorem dX2_firstWrong_104 : decode cX2_firstWrong 104 = .ok (.ifCond .eq 12, 3) := by decide +kernel
theorem dX2_firstWrong_107 : decode cX2_firstWrong 107 = .ok (.aload_n 1, 1) := by decide +kernel
theorem dX2_firstWrong_108 : decode cX2_firstWrong 108 = .ok (.getfield 15, 3) := by decide +kernel
theorem dX2_firstWrong_111 : decode cX2_firstWrong 111 = .ok (.bipush 12, 2) := by decide +kernel
theorem dX2_firstWrong_113 : decode cX2_firstWrong 113 = .ok (.if_icmp .lt 8, 3) := by decide +kernel
theorem dX2_firstWrong_116 : decode cX2_firstWrong 116 = .ok (.aload_n 0, 1) := by decide +kernel
theorem dX2_firstWrong_117 : decode cX2_firstWrong 117 = .ok (.getfield 62, 3) := by decide +kernel
theorem dX2_firstWrong_120 : decode cX2_firstWrong 120 = .ok (.ireturn, 1) := by decide +kernel
theorem dX2_firstWrong_121 : decode cX2_firstWrong 121 = .ok (.aload_n 1, 1) := by decide +kernel
theorem dX2_firstWrong_122 : decode cX2_firstWrong 122 = .ok (.lload 5, 2) := by decide +kernel
theorem dX2_firstWrong_124 : decode cX2_firstWrong 124 = .ok (.iload_n 3, 1) := by decide +kernel
theorem dX2_firstWrong_125 : decode cX2_firstWrong 125 = .ok (.invokevirtual 71, 3) := by decide +kernel
theorem dX2_firstWrong_128 : decode cX2_firstWrong 128 = .ok (.iconst 0, 1) := by decide +kernel
theorem dX2_firstWrong_129 : decode cX2_firstWrong 129 = .ok (.istore_n 2, 1) := by decide +kernel
theorem dX2_firstWrong_130 : decode cX2_firstWrong 130 = .ok (.iconst 0, 1) := by decide +kernel
theorem dX2_firstWrong_131 : decode cX2_firstWrong 131 = .ok (.istore_n 3, 1) := by decide +kernel
theorem dX2_firstWrong_132 : decode cX2_firstWrong 132 = .ok (.iinc 4 1, 3) := by decide +kernel
theorem dX2_firstWrong_135 : decode cX2_firstWrong 135 = .ok (.goto (-120), 3) := by decide +kernel
theorem dX2_firstWrong_138 : decode cX2_firstWrong 138 = .ok (.iload_n 2, 1) := by decide +kernel
theorem dX2_firstWrong_139 : decode cX2_firstWrong 139 = .ok (.ifCond .eq 10, 3) := by decide +kernel
theorem dX2_firstWrong_142 : decode cX2_firstWrong 142 = .ok (.aload_n 0, 1) := by decide +kernel
theorem dX2_firstWrong_143 : decode cX2_firstWrong 143 = .ok (.getfield 75, 3) := by decide +kernel
theorem dX2_firstWrong_146 : decode cX2_firstWrong 146 = .ok (.goto 4, 3) := by decide +kernel
theorem dX2_firstWrong_149 : decode cX2_firstWrong 149 = .ok (.iconst (-1), 1) := by decide +kernel
theorem dX2_firstWrong_150 : decode cX2_firstWrong 150 = .ok (.ireturn, 1) := by decide +kernel
theorem dX2_isPlainWord_0 : decode cX2_isPlainWord 0 = .ok (.lload_n 0, 1) := by decide +kernel
theorem dX2_isPlainWord_1 : decode cX2_isPlainWord 1 = .ok (.lconst 0, 1) := by decide +kernel
theorem dX2_isPlainWord_2 : decode cX2_isPlainWord 2 = .ok (.lcmp, 1) := by decide +kernel
theorem dX2_isPlainWord_3 : decode cX2_isPlainWord 3 = .ok (.ifCond .eq 31, 3) := by decide +kernel
theorem dX2_isPlainWord_6 : decode cX2_isPlainWord 6 = .ok (.lload_n 0, 1) := by decide +kernel
theorem dX2_isPlainWord_7 : decode cX2_isPlainWord 7 = .ok (.ldc2_w 58, 3) := by decide +kernel
theorem dX2_isPlainWord_10 : decode cX2_isPlainWord 10 = .ok (.lcmp, 1) := by decide +kernel
theorem dX2_isPlainWord_11 : decode cX2_isPlainWord 11 = .ok (.ifCond .eq 23, 3) := by decide +kernel
theorem dX2_isPlainWord_14 : decode cX2_isPlainWord 14 = .ok (.lload_n 0, 1) := by decide +kernel
theorem dX2_isPlainWord_15 : decode cX2_isPlainWord 15 = .ok (.ldc2_w 60, 3) := by decide +kernel
theorem dX2_isPlainWord_18 : decode cX2_isPlainWord 18 = .ok (.lcmp, 1) := by decide +kernel
theorem dX2_isPlainWord_19 : decode cX2_isPlainWord 19 = .ok (.ifCond .eq 15, 3) := by decide +kernel
theorem dX2_isPlainWord_22 : decode cX2_isPlainWord 22 = .ok (.lload_n 0, 1) := by decide +kernel
theorem dX2_isPlainWord_23 : decode cX2_isPlainWord 23 = .ok (.ldc2_w 65, 3) := by decide +kernel
theorem dX2_isPlainWord_26 : decode cX2_isPlainWord 26 = .ok (.lcmp, 1) := by decide +kernel
theorem dX2_isPlainWord_27 : decode cX2_isPlainWord 27 = .ok (.ifCond .eq 7, 3) := by decide +kernel
theorem dX2_isPlainWord_30 : decode cX2_isPlainWord 30 = .ok (.iconst 1, 1) := by decide +kernel
theorem dX2_isPlainWord_31 : decode cX2_isPlainWord 31 = .ok (.goto 4, 3) := by decide +kernel
theorem dX2_isPlainWord_34 : decode cX2_isPlainWord 34 = .ok (.iconst 0, 1) := by decide +kernel
theorem dX2_isPlainWord_35 : decode cX2_isPlainWord 35 = .ok (.ireturn, 1) := by decide +kernel
theorem dX2_fits_0 : decode cX2_fits 0 = .ok (.iconst 0, 1) := by decide +kernel
theorem dX2_fits_1 : decode cX2_fits 1 = .ok (.istore_n 2, 1) := by decide +kernel
theorem dX2_fits_2 : decode cX2_fits 2 = .ok (.iconst 1, 1) := by decide +kernel
theorem dX2_fits_3 : decode cX2_fits 3 = .ok (.istore_n 3, 1) := by decide +kernel
theorem dX2_fits_4 : decode cX2_fits 4 = .ok (.iconst 0, 1) := by decide +kernel
theorem dX2_fits_5 : decode cX2_fits 5 = .ok (.istore 4, 2) := by decide +kernel
theorem dX2_fits_7 : decode cX2_fits 7 = .ok (.iload 4, 2) := by decide +kernel
theorem dX2_fits_9 : decode cX2_fits 9 = .ok (.aload_n 0, 1) := by decide +kernel
theorem dX2_fits_10 : decode cX2_fits 10 = .ok (.getfield 25, 3) := by decide +kernel
theorem dX2_fits_13 : decode cX2_fits 13 = .ok (.arraylength, 1) := by decide +kernel
theorem dX2_fits_14 : decode cX2_fits 14 = .ok (.if_icmp .ge 88, 3) := by decide +kernel
theorem dX2_fits_17 : decode cX2_fits 17 = .ok (.iload 4, 2) := by decide +kernel
theorem dX2_fits_19 : decode cX2_fits 19 = .ok (.aload_n 0, 1) := by decide +kernel
theorem dX2_fits_20 : decode cX2_fits 20 = .ok (.getfield 35, 3) := by decide +kernel
theorem dX2_fits_23 : decode cX2_fits 23 = .ok (.arraylength, 1) := by decide +kernel
theorem dX2_fits_24 : decode cX2_fits 24 = .ok (.if_icmp .ge 78, 3) := by decide +kernel
theorem dX2_fits_27 : decode cX2_fits 27 = .ok (.aload_n 0, 1) := by decide +kernel
theorem dX2_fits_28 : decode cX2_fits 28 = .ok (.getfield 35, 3) := by decide +kernel
theorem dX2_fits_31 : decode cX2_fits 31 = .ok (.iload 4, 2) := by decide +kernel
theorem dX2_fits_33 : decode cX2_fits 33 = .ok (.iaload, 1) := by decide +kernel
theorem dX2_fits_34 : decode cX2_fits 34 = .ok (.iload_n 2, 1) := by decide +kernel
theorem dX2_fits_35 : decode cX2_fits 35 = .ok (.if_icmp .eq 19, 3) := by decide +kernel
theorem dX2_fits_38 : decode cX2_fits 38 = .ok (.iload_n 3, 1) := by decide +kernel
theorem dX2_fits_39 : decode cX2_fits 39 = .ok (.ifCond .eq 5, 3) := by decide +kernel
theorem dX2_fits_42 : decode cX2_fits 42 = .ok (.iconst 1, 1) := by decide +kernel
theorem dX2_fits_43 : decode cX2_fits 43 = .ok (.ireturn, 1) := by decide +kernel
theorem dX2_fits_44 : decode cX2_fits 44 = .ok (.aload_n 0, 1) := by decide +kernel
theorem dX2_fits_45 : decode cX2_fits 45 = .ok (.getfield 35, 3) := by decide +kernel
theorem dX2_fits_48 : decode cX2_fits 48 = .ok (.iload 4, 2) := by decide +kernel
theorem dX2_fits_50 : decode cX2_fits 50 = .ok (.iaload, 1) := by decide +kernel
theorem dX2_fits_51 : decode cX2_fits 51 = .ok (.istore_n 2, 1) := by decide +kernel
theorem dX2_fits_52 : decode cX2_fits 52 = .ok (.iconst 1, 1) := by decide +kernel
theorem dX2_fits_53 : decode cX2_fits 53 = .ok (.istore_n 3, 1) := by decide +kernel
theorem dX2_fits_54 : decode cX2_fits 54 = .ok (.aload_n 0, 1) := by decide +kernel
theorem dX2_fits_55 : decode cX2_fits 55 = .ok (.getfield 41, 3) := by decide +kernel
theorem dX2_fits_58 : decode cX2_fits 58 = .ok (.iload 4, 2) := by decide +kernel
theorem dX2_fits_60 : decode cX2_fits 60 = .ok (.ishr, 1) := by decide +kernel
theorem dX2_fits_61 : decode cX2_fits 61 = .ok (.iconst 1, 1) := by decide +kernel
theorem dX2_fits_62 : decode cX2_fits 62 = .ok (.iand, 1) := by decide +kernel
theorem dX2_fits_63 : decode cX2_fits 63 = .ok (.iconst 1, 1) := by decide +kernel
theorem dX2_fits_64 : decode cX2_fits 64 = .ok (.if_icmp .ne 7, 3) := by decide +kernel
theorem dX2_fits_67 : decode cX2_fits 67 = .ok (.iconst 1, 1) := by decide +kernel
theorem dX2_fits_68 : decode cX2_fits 68 = .ok (.goto 4, 3) := by decide +kernel
theorem dX2_fits_71 : decode cX2_fits 71 = .ok (.iconst 0, 1) := by decide +kernel
theorem dX2_fits_72 : decode cX2_fits 72 = .ok (.istore 5, 2) := by decide +kernel
theorem dX2_fits_74 : decode cX2_fits 74 = .ok (.iload_n 3, 1) := by decide +kernel
theorem dX2_fits_75 : decode cX2_fits 75 = .ok (.ifCond .eq 21, 3) := by decide +kernel
theorem dX2_fits_78 : decode cX2_fits 78 = .ok (.aload_n 1, 1) := by decide +kernel
theorem dX2_fits_79 : decode cX2_fits 79 = .ok (.aload_n 0, 1) := by decide +kernel
theorem dX2_fits_80 : decode cX2_fits 80 = .ok (.getfield 25, 3) := by decide +kernel
theorem dX2_fits_83 : decode cX2_fits 83 = .ok (.iload 4, 2) := by decide +kernel
theorem dX2_fits_85 : decode cX2_fits 85 = .ok (.laload, 1) := by decide +kernel
theorem dX2_fits_86 : decode cX2_fits 86 = .ok (.invokevirtual 78, 3) := by decide +kernel
theorem dX2_fits_89 : decode cX2_fits 89 = .ok (.iload 5, 2) := by decide +kernel
theorem dX2_fits_91 : decode cX2_fits 91 = .ok (.if_icmp .ne 5, 3) := by decide +kernel
theorem dX2_fits_94 : decode cX2_fits 94 = .ok (.iconst 0, 1) := by decide +kernel
theorem dX2_fits_95 : decode cX2_fits 95 = .ok (.istore_n 3, 1) := by decide +kernel
theorem dX2_fits_96 : decode cX2_fits 96 = .ok (.iinc 4 1, 3) := by decide +kernel
theorem dX2_fits_99 : decode cX2_fits 99 = .ok (.goto (-92), 3) := by decide +kernel
theorem dX2_fits_102 : decode cX2_fits 102 = .ok (.iload_n 3, 1) := by decide +kernel
theorem dX2_fits_103 : decode cX2_fits 103 = .ok (.ireturn, 1) := by decide +kernel
theorem dX3_init_0 : decode cX3_init 0 = .ok (.aload_n 0, 1) := by decide +kernel
theorem dX3_init_1 : decode cX3_init 1 = .ok (.invokespecial 3, 3) := by decide +kernel
theorem dX3_init_4 : decode cX3_init 4 = .ok (.aload_n 0, 1) := by decide +kernel
theorem dX3_init_5 : decode cX3_init 5 = .ok (.aconst_null, 1) := by decide +kernel
theorem dX3_init_6 : decode cX3_init 6 = .ok (.putfield 9, 3) := by decide +kernel
theorem dX3_init_9 : decode cX3_init 9 = .ok (.aload_n 0, 1) := by decide +kernel
theorem dX3_init_10 : decode cX3_init 10 = .ok (.iconst (-1), 1) := by decide +kernel
theorem dX3_init_11 : decode cX3_init 11 = .ok (.putfield 15, 3) := by decide +kernel
theorem dX3_init_14 : decode cX3_init 14 = .ok (.aload_n 0, 1) := by decide +kernel
theorem dX3_init_15 : decode cX3_init 15 = .ok (.iconst (-1), 1) := by decide +kernel
theorem dX3_init_16 : decode cX3_init 16 = .ok (.putfield 19, 3) := by decide +kernel
theorem dX3_init_19 : decode cX3_init 19 = .ok (.aload_n 0, 1) := by decide +kernel
theorem dX3_init_20 : decode cX3_init 20 = .ok (.aload_n 1, 1) := by decide +kernel
theorem dX3_init_21 : decode cX3_init 21 = .ok (.putfield 22, 3) := by decide +kernel
theorem dX3_init_24 : decode cX3_init 24 = .ok (.return_, 1) := by decide +kernel
theorem dX3_hasWord_0 : decode cX3_hasWord 0 = .ok (.iconst 0, 1) := by decide +kernel
theorem dX3_hasWord_1 : decode cX3_hasWord 1 = .ok (.istore_n 3, 1) := by decide +kernel
theorem dX3_hasWord_2 : decode cX3_hasWord 2 = .ok (.iload_n 3, 1) := by decide +kernel
theorem dX3_hasWord_3 : decode cX3_hasWord 3 = .ok (.aload_n 0, 1) := by decide +kernel
theorem dX3_hasWord_4 : decode cX3_hasWord 4 = .ok (.getfield 22, 3) := by decide +kernel
theorem dX3_hasWord_7 : decode cX3_hasWord 7 = .ok (.arraylength, 1) := by decide +kernel
theorem dX3_hasWord_8 : decode cX3_hasWord 8 = .ok (.if_icmp .ge 22, 3) := by decide +kernel
theorem dX3_hasWord_11 : decode cX3_hasWord 11 = .ok (.aload_n 0, 1) := by decide +kernel
theorem dX3_hasWord_12 : decode cX3_hasWord 12 = .ok (.getfield 22, 3) := by decide +kernel
theorem dX3_hasWord_15 : decode cX3_hasWord 15 = .ok (.iload_n 3, 1) := by decide +kernel
theorem dX3_hasWord_16 : decode cX3_hasWord 16 = .ok (.laload, 1) := by decide +kernel
theorem dX3_hasWord_17 : decode cX3_hasWord 17 = .ok (.lload_n 1, 1) := by decide +kernel
theorem dX3_hasWord_18 : decode cX3_hasWord 18 = .ok (.lcmp, 1) := by decide +kernel
theorem dX3_hasWord_19 : decode cX3_hasWord 19 = .ok (.ifCond .ne 5, 3) := by decide +kernel
theorem dX3_hasWord_22 : decode cX3_hasWord 22 = .ok (.iconst 1, 1) := by decide +kernel
theorem dX3_hasWord_23 : decode cX3_hasWord 23 = .ok (.ireturn, 1) := by decide +kernel
theorem dX3_hasWord_24 : decode cX3_hasWord 24 = .ok (.iinc 3 1, 3) := by decide +kernel
theorem dX3_hasWord_27 : decode cX3_hasWord 27 = .ok (.goto (-25), 3) := by decide +kernel
theorem dX3_hasWord_30 : decode cX3_hasWord 30 = .ok (.iconst 0, 1) := by decide +kernel
theorem dX3_hasWord_31 : decode cX3_hasWord 31 = .ok (.ireturn, 1) := by decide +kernel
theorem dX3_putTo_0 : decode cX3_putTo 0 = .ok (.aload_n 1, 1) := by decide +kernel
theorem dX3_putTo_1 : decode cX3_putTo 1 = .ok (.aload_n 0, 1) := by decide +kernel
theorem dX3_putTo_2 : decode cX3_putTo 2 = .ok (.getfield 9, 3) := by decide +kernel
theorem dX3_putTo_5 : decode cX3_putTo 5 = .ok (.if_acmp .ne 5, 3) := by decide +kernel
theorem dX3_putTo_8 : decode cX3_putTo 8 = .ok (.iconst 0, 1) := by decide +kernel
theorem dX3_putTo_9 : decode cX3_putTo 9 = .ok (.ireturn, 1) := by decide +kernel
theorem dX3_putTo_10 : decode cX3_putTo 10 = .ok (.aload_n 0, 1) := by decide +kernel
theorem dX3_putTo_11 : decode cX3_putTo 11 = .ok (.aload_n 1, 1) := by decide +kernel
theorem dX3_putTo_12 : decode cX3_putTo 12 = .ok (.putfield 9, 3) := by decide +kernel
theorem dX3_putTo_15 : decode cX3_putTo 15 = .ok (.aload_n 0, 1) := by decide +kernel
theorem dX3_putTo_16 : decode cX3_putTo 16 = .ok (.aload_n 1, 1) := by decide +kernel
theorem dX3_putTo_17 : decode cX3_putTo 17 = .ok (.ifnonnull 7, 3) := by decide +kernel
theorem dX3_putTo_20 : decode cX3_putTo 20 = .ok (.iconst (-1), 1) := by decide +kernel
theorem dX3_putTo_21 : decode cX3_putTo 21 = .ok (.goto 9, 3) := by decide +kernel
theorem dX3_putTo_24 : decode cX3_putTo 24 = .ok (.iload_n 2, 1) := by decide +kernel
theorem dX3_putTo_25 : decode cX3_putTo 25 = .ok (.aload_n 1, 1) := by decide +kernel
theorem dX3_putTo_26 : decode cX3_putTo 26 = .ok (.getfield 26, 3) := by decide +kernel
theorem dX3_putTo_29 : decode cX3_putTo 29 = .ok (.iadd, 1) := by decide +kernel
theorem dX3_putTo_30 : decode cX3_putTo 30 = .ok (.putfield 15, 3) := by decide +kernel
theorem dX3_putTo_33 : decode cX3_putTo 33 = .ok (.iconst 1, 1) := by decide +kernel
theorem dX3_putTo_34 : decode cX3_putTo 34 = .ok (.ireturn, 1) := by decide +kernel
theorem dX3_isAnswered_0 : decode cX3_isAnswered 0 = .ok (.aload_n 0, 1) := by decide +kernel
theorem dX3_isAnswered_1 : decode cX3_isAnswered 1 = .ok (.getfield 19, 3) := by decide +kernel
theorem dX3_isAnswered_4 : decode cX3_isAnswered 4 = .ok (.iconst (-1), 1) := by decide +kernel
theorem dX3_isAnswered_5 : decode cX3_isAnswered 5 = .ok (.if_icmp .eq 7, 3) := by decide +kernel
theorem dX3_isAnswered_8 : decode cX3_isAnswered 8 = .ok (.iconst 1, 1) := by decide +kernel
theorem dX3_isAnswered_9 : decode cX3_isAnswered 9 = .ok (.goto 4, 3) := by decide +kernel
theorem dX3_isAnswered_12 : decode cX3_isAnswered 12 = .ok (.iconst 0, 1) := by decide +kernel
theorem dX3_isAnswered_13 : decode cX3_isAnswered 13 = .ok (.ireturn, 1) := by decide +kernel
theorem dX3_isWaitingAt_0 : decode cX3_isWaitingAt 0 = .ok (.aload_n 0, 1) := by decide +kernel
theorem dX3_isWaitingAt_1 : decode cX3_isWaitingAt 1 = .ok (.getfield 19, 3) := by decide +kernel
theorem dX3_isWaitingAt_4 : decode cX3_isWaitingAt 4 = .ok (.iconst (-1), 1) := by decide +kernel
theorem dX3_isWaitingAt_5 : decode cX3_isWaitingAt 5 = .ok (.if_icmp .ne 25, 3) := by decide +kernel
theorem dX3_isWaitingAt_8 : decode cX3_isWaitingAt 8 = .ok (.aload_n 0, 1) := by decide +kernel
theorem dX3_isWaitingAt_9 : decode cX3_isWaitingAt 9 = .ok (.getfield 9, 3) := by decide +kernel
theorem dX3_isWaitingAt_12 : decode cX3_isWaitingAt 12 = .ok (.ifnull 18, 3) := by decide +kernel
theorem dX3_isWaitingAt_15 : decode cX3_isWaitingAt 15 = .ok (.aload_n 0, 1) := by decide +kernel
theorem dX3_isWaitingAt_16 : decode cX3_isWaitingAt 16 = .ok (.getfield 9, 3) := by decide +kernel
theorem dX3_isWaitingAt_19 : decode cX3_isWaitingAt 19 = .ok (.getfield 31, 3) := by decide +kernel
theorem dX3_isWaitingAt_22 : decode cX3_isWaitingAt 22 = .ok (.iload_n 1, 1) := by decide +kernel
theorem dX3_isWaitingAt_23 : decode cX3_isWaitingAt 23 = .ok (.if_icmp .ne 7, 3) := by decide +kernel
theorem dX3_isWaitingAt_26 : decode cX3_isWaitingAt 26 = .ok (.iconst 1, 1) := by decide +kernel
theorem dX3_isWaitingAt_27 : decode cX3_isWaitingAt 27 = .ok (.goto 4, 3) := by decide +kernel
theorem dX3_isWaitingAt_30 : decode cX3_isWaitingAt 30 = .ok (.iconst 0, 1) := by decide +kernel
theorem dX3_isWaitingAt_31 : decode cX3_isWaitingAt 31 = .ok (.ireturn, 1) := by decide +kernel
theorem dX3_isMorePressing_0 : decode cX3_isMorePressing 0 = .ok (.aload_n 0, 1) := by decide +kernel
theorem dX3_isMorePressing_1 : decode cX3_isMorePressing 1 = .ok (.invokevirtual 34, 3) := by decide +kernel
theorem dX3_isMorePressing_4 : decode cX3_isMorePressing 4 = .ok (.aload_n 1, 1) := by decide +kernel
theorem dX3_isMorePressing_5 : decode cX3_isMorePressing 5 = .ok (.invokevirtual 34, 3) := by decide +kernel
theorem dX3_isMorePressing_8 : decode cX3_isMorePressing 8 = .ok (.if_icmp .eq 8, 3) := by decide +kernel
theorem dX3_isMorePressing_11 : decode cX3_isMorePressing 11 = .ok (.aload_n 0, 1) := by decide +kernel
theorem dX3_isMorePressing_12 : decode cX3_isMorePressing 12 = .ok (.invokevirtual 34, 3) := by decide +kernel
theorem dX3_isMorePressing_15 : decode cX3_isMorePressing 15 = .ok (.ireturn, 1) := by decide +kernel
theorem dX3_isMorePressing_16 : decode cX3_isMorePressing 16 = .ok (.aload_n 0, 1) := by decide +kernel
theorem dX3_isMorePressing_17 : decode cX3_isMorePressing 17 = .ok (.getfield 15, 3) := by decide +kernel
theorem dX3_isMorePressing_20 : decode cX3_isMorePressing 20 = .ok (.aload_n 1, 1) := by decide +kernel
theorem dX3_isMorePressing_21 : decode cX3_isMorePressing 21 = .ok (.getfield 15, 3) := by decide +kernel
theorem dX3_isMorePressing_24 : decode cX3_isMorePressing 24 = .ok (.if_icmp .ge 7, 3) := by decide +kernel
theorem dX3_isMorePressing_27 : decode cX3_isMorePressing 27 = .ok (.iconst 1, 1) := by decide +kernel
theorem dX3_isMorePressing_28 : decode cX3_isMorePressing 28 = .ok (.goto 4, 3) := by decide +kernel
theorem dX3_isMorePressing_31 : decode cX3_isMorePressing 31 = .ok (.iconst 0, 1) := by decide +kernel
theorem dX3_isMorePressing_32 : decode cX3_isMorePressing 32 = .ok (.ireturn, 1) := by decide +kernel
theorem dX3_isThreat_0 : decode cX3_isThreat 0 = .ok (.aload_n 0, 1) := by decide +kernel
theorem dX3_isThreat_1 : decode cX3_isThreat 1 = .ok (.getfield 9, 3) := by decide +kernel
theorem dX3_isThreat_4 : decode cX3_isThreat 4 = .ok (.ifnull 17, 3) := by decide +kernel
theorem dX3_isThreat_7 : decode cX3_isThreat 7 = .ok (.aload_n 0, 1) := by decide +kernel
theorem dX3_isThreat_8 : decode cX3_isThreat 8 = .ok (.getfield 9, 3) := by decide +kernel
theorem dX3_isThreat_11 : decode cX3_isThreat 11 = .ok (.getfield 38, 3) := by decide +kernel
theorem dX3_isThreat_14 : decode cX3_isThreat 14 = .ok (.ifCond .eq 7, 3) := by decide +kernel
theorem dX3_isThreat_17 : decode cX3_isThreat 17 = .ok (.iconst 1, 1) := by decide +kernel
theorem dX3_isThreat_18 : decode cX3_isThreat 18 = .ok (.goto 4, 3) := by decide +kernel
theorem dX3_isThreat_21 : decode cX3_isThreat 21 = .ok (.iconst 0, 1) := by decide +kernel
theorem dX3_isThreat_22 : decode cX3_isThreat 22 = .ok (.ireturn, 1) := by decide +kernel
theorem dX3_isCountedAs_0 : decode cX3_isCountedAs 0 = .ok (.iload_n 1, 1) := by decide +kernel
theorem dX3_isCountedAs_1 : decode cX3_isCountedAs 1 = .ok (.tableswitch 101 4 7 #[31, 33, 54, 68], 31) := by decide +kernel
theorem dX3_isCountedAs_32 : decode cX3_isCountedAs 32 = .ok (.iconst 1, 1) := by decide +kernel
theorem dX3_isCountedAs_33 : decode cX3_isCountedAs 33 = .ok (.ireturn, 1) := by decide +kernel
theorem dX3_isCountedAs_34 : decode cX3_isCountedAs 34 = .ok (.aload_n 0, 1) := by decide +kernel
theorem dX3_isCountedAs_35 : decode cX3_isCountedAs 35 = .ok (.getfield 9, 3) := by decide +kernel
theorem dX3_isCountedAs_38 : decode cX3_isCountedAs 38 = .ok (.ifnonnull 15, 3) := by decide +kernel
theorem dX3_isCountedAs_41 : decode cX3_isCountedAs 41 = .ok (.aload_n 0, 1) := by decide +kernel
theorem dX3_isCountedAs_42 : decode cX3_isCountedAs 42 = .ok (.getfield 19, 3) := by decide +kernel
theorem dX3_isCountedAs_45 : decode cX3_isCountedAs 45 = .ok (.iconst (-1), 1) := by decide +kernel
theorem dX3_isCountedAs_46 : decode cX3_isCountedAs 46 = .ok (.if_icmp .ne 7, 3) := by decide +kernel
theorem dX3_isCountedAs_49 : decode cX3_isCountedAs 49 = .ok (.iconst 1, 1) := by decide +kernel
theorem dX3_isCountedAs_50 : decode cX3_isCountedAs 50 = .ok (.goto 4, 3) := by decide +kernel
theorem dX3_isCountedAs_53 : decode cX3_isCountedAs 53 = .ok (.iconst 0, 1) := by decide +kernel
theorem dX3_isCountedAs_54 : decode cX3_isCountedAs 54 = .ok (.ireturn, 1) := by decide +kernel
theorem dX3_isCountedAs_55 : decode cX3_isCountedAs 55 = .ok (.aload_n 0, 1) := by decide +kernel
theorem dX3_isCountedAs_56 : decode cX3_isCountedAs 56 = .ok (.getfield 19, 3) := by decide +kernel
theorem dX3_isCountedAs_59 : decode cX3_isCountedAs 59 = .ok (.iconst (-1), 1) := by decide +kernel
theorem dX3_isCountedAs_60 : decode cX3_isCountedAs 60 = .ok (.if_icmp .eq 7, 3) := by decide +kernel
theorem dX3_isCountedAs_63 : decode cX3_isCountedAs 63 = .ok (.iconst 1, 1) := by decide +kernel
theorem dX3_isCountedAs_64 : decode cX3_isCountedAs 64 = .ok (.goto 4, 3) := by decide +kernel
theorem dX3_isCountedAs_67 : decode cX3_isCountedAs 67 = .ok (.iconst 0, 1) := by decide +kernel
theorem dX3_isCountedAs_68 : decode cX3_isCountedAs 68 = .ok (.ireturn, 1) := by decide +kernel
theorem dX3_isCountedAs_69 : decode cX3_isCountedAs 69 = .ok (.aload_n 0, 1) := by decide +kernel
theorem dX3_isCountedAs_70 : decode cX3_isCountedAs 70 = .ok (.getfield 19, 3) := by decide +kernel
theorem dX3_isCountedAs_73 : decode cX3_isCountedAs 73 = .ok (.iconst (-1), 1) := by decide +kernel
theorem dX3_isCountedAs_74 : decode cX3_isCountedAs 74 = .ok (.if_icmp .eq 26, 3) := by decide +kernel
theorem dX3_isCountedAs_77 : decode cX3_isCountedAs 77 = .ok (.aload_n 0, 1) := by decide +kernel
theorem dX3_isCountedAs_78 : decode cX3_isCountedAs 78 = .ok (.getfield 15, 3) := by decide +kernel
theorem dX3_isCountedAs_81 : decode cX3_isCountedAs 81 = .ok (.iconst (-1), 1) := by decide +kernel
theorem dX3_isCountedAs_82 : decode cX3_isCountedAs 82 = .ok (.if_icmp .eq 18, 3) := by decide +kernel
theorem dX3_isCountedAs_85 : decode cX3_isCountedAs 85 = .ok (.aload_n 0, 1) := by decide +kernel
theorem dX3_isCountedAs_86 : decode cX3_isCountedAs 86 = .ok (.getfield 19, 3) := by decide +kernel
theorem dX3_isCountedAs_89 : decode cX3_isCountedAs 89 = .ok (.aload_n 0, 1) := by decide +kernel
theorem dX3_isCountedAs_90 : decode cX3_isCountedAs 90 = .ok (.getfield 15, 3) := by decide +kernel
theorem dX3_isCountedAs_93 : decode cX3_isCountedAs 93 = .ok (.if_icmp .le 7, 3) := by decide +kernel
theorem dX3_isCountedAs_96 : decode cX3_isCountedAs 96 = .ok (.iconst 1, 1) := by decide +kernel
theorem dX3_isCountedAs_97 : decode cX3_isCountedAs 97 = .ok (.goto 4, 3) := by decide +kernel
theorem dX3_isCountedAs_100 : decode cX3_isCountedAs 100 = .ok (.iconst 0, 1) := by decide +kernel
theorem dX3_isCountedAs_101 : decode cX3_isCountedAs 101 = .ok (.ireturn, 1) := by decide +kernel
theorem dX3_isCountedAs_102 : decode cX3_isCountedAs 102 = .ok (.iconst 0, 1) := by decide +kernel
theorem dX3_isCountedAs_103 : decode cX3_isCountedAs 103 = .ok (.ireturn, 1) := by decide +kernel
theorem dX4_init_0 : decode cX4_init 0 = .ok (.aload_n 0, 1) := by decide +kernel
theorem dX4_init_1 : decode cX4_init 1 = .ok (.invokespecial 3, 3) := by decide +kernel
theorem dX4_init_4 : decode cX4_init 4 = .ok (.aload_n 0, 1) := by decide +kernel
theorem dX4_init_5 : decode cX4_init 5 = .ok (.sipush 400, 3) := by decide +kernel
theorem dX4_init_8 : decode cX4_init 8 = .ok (.newarray .byte, 2) := by decide +kernel
theorem dX4_init_10 : decode cX4_init 10 = .ok (.putfield 9, 3) := by decide +kernel
theorem dX4_init_13 : decode cX4_init 13 = .ok (.aload_n 0, 1) := by decide +kernel
theorem dX4_init_14 : decode cX4_init 14 = .ok (.iconst 0, 1) := by decide +kernel
theorem dX4_init_15 : decode cX4_init 15 = .ok (.putfield 15, 3) := by decide +kernel
theorem dX4_init_18 : decode cX4_init 18 = .ok (.aload_n 0, 1) := by decide +kernel
theorem dX4_init_19 : decode cX4_init 19 = .ok (.iconst 0, 1) := by decide +kernel
theorem dX4_init_20 : decode cX4_init 20 = .ok (.putfield 19, 3) := by decide +kernel
theorem dX4_init_23 : decode cX4_init 23 = .ok (.aload_n 0, 1) := by decide +kernel
theorem dX4_init_24 : decode cX4_init 24 = .ok (.iconst 0, 1) := by decide +kernel
theorem dX4_init_25 : decode cX4_init 25 = .ok (.putfield 22, 3) := by decide +kernel
theorem dX4_init_28 : decode cX4_init 28 = .ok (.aload_n 0, 1) := by decide +kernel
theorem dX4_init_29 : decode cX4_init 29 = .ok (.iconst 0, 1) := by decide +kernel
theorem dX4_init_30 : decode cX4_init 30 = .ok (.putfield 25, 3) := by decide +kernel
theorem dX4_init_33 : decode cX4_init 33 = .ok (.return_, 1) := by decide +kernel
theorem dX4_hasRoom_0 : decode cX4_hasRoom 0 = .ok (.aload_n 0, 1) := by decide +kernel
theorem dX4_hasRoom_1 : decode cX4_hasRoom 1 = .ok (.getfield 15, 3) := by decide +kernel
theorem dX4_hasRoom_4 : decode cX4_hasRoom 4 = .ok (.sipush 380, 3) := by decide +kernel
theorem dX4_hasRoom_7 : decode cX4_hasRoom 7 = .ok (.if_icmp .gt 7, 3) := by decide +kernel
theorem dX4_hasRoom_10 : decode cX4_hasRoom 10 = .ok (.iconst 1, 1) := by decide +kernel
theorem dX4_hasRoom_11 : decode cX4_hasRoom 11 = .ok (.goto 4, 3) := by decide +kernel
theorem dX4_hasRoom_14 : decode cX4_hasRoom 14 = .ok (.iconst 0, 1) := by decide +kernel
theorem dX4_hasRoom_15 : decode cX4_hasRoom 15 = .ok (.ireturn, 1) := by decide +kernel
theorem dX4_append_0 : decode cX4_append 0 = .ok (.bipush 24, 2) := by decide +kernel
theorem dX4_append_2 : decode cX4_append 2 = .ok (.istore_n 2, 1) := by decide +kernel
theorem dX4_append_3 : decode cX4_append 3 = .ok (.iload_n 2, 1) := by decide +kernel
theorem dX4_append_4 : decode cX4_append 4 = .ok (.ifCond .lt 44, 3) := by decide +kernel
theorem dX4_append_7 : decode cX4_append 7 = .ok (.aload_n 0, 1) := by decide +kernel
theorem dX4_append_8 : decode cX4_append 8 = .ok (.getfield 15, 3) := by decide +kernel
theorem dX4_append_11 : decode cX4_append 11 = .ok (.aload_n 0, 1) := by decide +kernel
theorem dX4_append_12 : decode cX4_append 12 = .ok (.getfield 9, 3) := by decide +kernel
theorem dX4_append_15 : decode cX4_append 15 = .ok (.arraylength, 1) := by decide +kernel
theorem dX4_append_16 : decode cX4_append 16 = .ok (.if_icmp .ge 32, 3) := by decide +kernel
theorem dX4_append_19 : decode cX4_append 19 = .ok (.aload_n 0, 1) := by decide +kernel
theorem dX4_append_20 : decode cX4_append 20 = .ok (.getfield 9, 3) := by decide +kernel
theorem dX4_append_23 : decode cX4_append 23 = .ok (.aload_n 0, 1) := by decide +kernel
theorem dX4_append_24 : decode cX4_append 24 = .ok (.getfield 15, 3) := by decide +kernel
theorem dX4_append_27 : decode cX4_append 27 = .ok (.iload_n 1, 1) := by decide +kernel
theorem dX4_append_28 : decode cX4_append 28 = .ok (.iload_n 2, 1) := by decide +kernel
theorem dX4_append_29 : decode cX4_append 29 = .ok (.ishr, 1) := by decide +kernel
theorem dX4_append_30 : decode cX4_append 30 = .ok (.i2b, 1) := by decide +kernel
theorem dX4_append_31 : decode cX4_append 31 = .ok (.bastore, 1) := by decide +kernel
theorem dX4_append_32 : decode cX4_append 32 = .ok (.aload_n 0, 1) := by decide +kernel
theorem dX4_append_33 : decode cX4_append 33 = .ok (.dup, 1) := by decide +kernel
theorem dX4_append_34 : decode cX4_append 34 = .ok (.getfield 15, 3) := by decide +kernel
theorem dX4_append_37 : decode cX4_append 37 = .ok (.iconst 1, 1) := by decide +kernel
theorem dX4_append_38 : decode cX4_append 38 = .ok (.iadd, 1) := by decide +kernel
theorem dX4_append_39 : decode cX4_append 39 = .ok (.putfield 15, 3) := by decide +kernel
theorem dX4_append_42 : decode cX4_append 42 = .ok (.iinc 2 (-8), 3) := by decide +kernel
theorem dX4_append_45 : decode cX4_append 45 = .ok (.goto (-42), 3) := by decide +kernel
theorem dX4_append_48 : decode cX4_append 48 = .ok (.return_, 1) := by decide +kernel
theorem dX4_shorten_0 : decode cX4_shorten 0 = .ok (.iload_n 1, 1) := by decide +kernel
theorem dX4_shorten_1 : decode cX4_shorten 1 = .ok (.ifCond .lt 11, 3) := by decide +kernel
theorem dX4_shorten_4 : decode cX4_shorten 4 = .ok (.iload_n 1, 1) := by decide +kernel
theorem dX4_shorten_5 : decode cX4_shorten 5 = .ok (.aload_n 0, 1) := by decide +kernel
theorem dX4_shorten_6 : decode cX4_shorten 6 = .ok (.getfield 15, 3) := by decide +kernel
theorem dX4_shorten_9 : decode cX4_shorten 9 = .ok (.if_icmp .le 5, 3) := by decide +kernel
theorem dX4_shorten_12 : decode cX4_shorten 12 = .ok (.iconst 0, 1) := by decide +kernel
theorem dX4_shorten_13 : decode cX4_shorten 13 = .ok (.ireturn, 1) := by decide +kernel
theorem dX4_shorten_14 : decode cX4_shorten 14 = .ok (.aload_n 0, 1) := by decide +kernel
theorem dX4_shorten_15 : decode cX4_shorten 15 = .ok (.iload_n 1, 1) := by decide +kernel
theorem dX4_shorten_16 : decode cX4_shorten 16 = .ok (.putfield 15, 3) := by decide +kernel
theorem dX4_shorten_19 : decode cX4_shorten 19 = .ok (.iconst 1, 1) := by decide +kernel
theorem dX4_shorten_20 : decode cX4_shorten 20 = .ok (.ireturn, 1) := by decide +kernel
theorem dX4_useUp_0 : decode cX4_useUp 0 = .ok (.aload_n 0, 1) := by decide +kernel
theorem dX4_useUp_1 : decode cX4_useUp 1 = .ok (.aload_n 0, 1) := by decide +kernel
theorem dX4_useUp_2 : decode cX4_useUp 2 = .ok (.getfield 15, 3) := by decide +kernel
theorem dX4_useUp_5 : decode cX4_useUp 5 = .ok (.putfield 19, 3) := by decide +kernel
theorem dX4_useUp_8 : decode cX4_useUp 8 = .ok (.aload_n 0, 1) := by decide +kernel
theorem dX4_useUp_9 : decode cX4_useUp 9 = .ok (.iconst 0, 1) := by decide +kernel
theorem dX4_useUp_10 : decode cX4_useUp 10 = .ok (.putfield 15, 3) := by decide +kernel
theorem dX4_useUp_13 : decode cX4_useUp 13 = .ok (.aload_n 0, 1) := by decide +kernel
theorem dX4_useUp_14 : decode cX4_useUp 14 = .ok (.iconst 0, 1) := by decide +kernel
theorem dX4_useUp_15 : decode cX4_useUp 15 = .ok (.putfield 22, 3) := by decide +kernel
theorem dX4_useUp_18 : decode cX4_useUp 18 = .ok (.aload_n 0, 1) := by decide +kernel
theorem dX4_useUp_19 : decode cX4_useUp 19 = .ok (.iconst 0, 1) := by decide +kernel
theorem dX4_useUp_20 : decode cX4_useUp 20 = .ok (.putfield 25, 3) := by decide +kernel
theorem dX4_useUp_23 : decode cX4_useUp 23 = .ok (.return_, 1) := by decide +kernel
theorem dX4_next_0 : decode cX4_next 0 = .ok (.aload_n 0, 1) := by decide +kernel
theorem dX4_next_1 : decode cX4_next 1 = .ok (.aload_n 0, 1) := by decide +kernel
theorem dX4_next_2 : decode cX4_next 2 = .ok (.getfield 25, 3) := by decide +kernel
theorem dX4_next_5 : decode cX4_next 5 = .ok (.putfield 22, 3) := by decide +kernel
theorem dX4_next_8 : decode cX4_next 8 = .ok (.aload_n 0, 1) := by decide +kernel
theorem dX4_next_9 : decode cX4_next 9 = .ok (.getfield 22, 3) := by decide +kernel
theorem dX4_next_12 : decode cX4_next 12 = .ok (.aload_n 0, 1) := by decide +kernel
theorem dX4_next_13 : decode cX4_next 13 = .ok (.getfield 19, 3) := by decide +kernel
theorem dX4_next_16 : decode cX4_next 16 = .ok (.if_icmp .ge 29, 3) := by decide +kernel
theorem dX4_next_19 : decode cX4_next 19 = .ok (.aload_n 0, 1) := by decide +kernel
theorem dX4_next_20 : decode cX4_next 20 = .ok (.aload_n 0, 1) := by decide +kernel
theorem dX4_next_21 : decode cX4_next 21 = .ok (.getfield 22, 3) := by decide +kernel
theorem dX4_next_24 : decode cX4_next 24 = .ok (.invokevirtual 28, 3) := by decide +kernel
theorem dX4_next_27 : decode cX4_next 27 = .ok (.bipush 32, 2) := by decide +kernel
theorem dX4_next_29 : decode cX4_next 29 = .ok (.if_icmp .ne 16, 3) := by decide +kernel
theorem dX4_next_32 : decode cX4_next 32 = .ok (.aload_n 0, 1) := by decide +kernel
theorem dX4_next_33 : decode cX4_next 33 = .ok (.dup, 1) := by decide +kernel
theorem dX4_next_34 : decode cX4_next 34 = .ok (.getfield 22, 3) := by decide +kernel
theorem dX4_next_37 : decode cX4_next 37 = .ok (.iconst 1, 1) := by decide +kernel
theorem dX4_next_38 : decode cX4_next 38 = .ok (.iadd, 1) := by decide +kernel
theorem dX4_next_39 : decode cX4_next 39 = .ok (.putfield 22, 3) := by decide +kernel
theorem dX4_next_42 : decode cX4_next 42 = .ok (.goto (-34), 3) := by decide +kernel
theorem dX4_next_45 : decode cX4_next 45 = .ok (.aload_n 0, 1) := by decide +kernel
theorem dX4_next_46 : decode cX4_next 46 = .ok (.aload_n 0, 1) := by decide +kernel
theorem dX4_next_47 : decode cX4_next 47 = .ok (.getfield 22, 3) := by decide +kernel
theorem dX4_next_50 : decode cX4_next 50 = .ok (.putfield 25, 3) := by decide +kernel
theorem dX4_next_53 : decode cX4_next 53 = .ok (.aload_n 0, 1) := by decide +kernel
theorem dX4_next_54 : decode cX4_next 54 = .ok (.getfield 25, 3) := by decide +kernel
theorem dX4_next_57 : decode cX4_next 57 = .ok (.aload_n 0, 1) := by decide +kernel
theorem dX4_next_58 : decode cX4_next 58 = .ok (.getfield 19, 3) := by decide +kernel
theorem dX4_next_61 : decode cX4_next 61 = .ok (.if_icmp .ge 27, 3) := by decide +kernel
theorem dX4_next_64 : decode cX4_next 64 = .ok (.aload_n 0, 1) := by decide +kernel
theorem dX4_next_65 : decode cX4_next 65 = .ok (.aload_n 0, 1) := by decide +kernel
theorem dX4_next_66 : decode cX4_next 66 = .ok (.getfield 25, 3) := by decide +kernel
theorem dX4_next_69 : decode cX4_next 69 = .ok (.invokevirtual 32, 3) := by decide +kernel
theorem dX4_next_72 : decode cX4_next 72 = .ok (.ifCond .eq 16, 3) := by decide +kernel
theorem dX4_next_75 : decode cX4_next 75 = .ok (.aload_n 0, 1) := by decide +kernel
theorem dX4_next_76 : decode cX4_next 76 = .ok (.dup, 1) := by decide +kernel
theorem dX4_next_77 : decode cX4_next 77 = .ok (.getfield 25, 3) := by decide +kernel
theorem dX4_next_80 : decode cX4_next 80 = .ok (.iconst 1, 1) := by decide +kernel
theorem dX4_next_81 : decode cX4_next 81 = .ok (.iadd, 1) := by decide +kernel
theorem dX4_next_82 : decode cX4_next 82 = .ok (.putfield 25, 3) := by decide +kernel
theorem dX4_next_85 : decode cX4_next 85 = .ok (.goto (-32), 3) := by decide +kernel
theorem dX4_next_88 : decode cX4_next 88 = .ok (.aload_n 0, 1) := by decide +kernel
theorem dX4_next_89 : decode cX4_next 89 = .ok (.getfield 25, 3) := by decide +kernel
theorem dX4_next_92 : decode cX4_next 92 = .ok (.aload_n 0, 1) := by decide +kernel
theorem dX4_next_93 : decode cX4_next 93 = .ok (.getfield 22, 3) := by decide +kernel
theorem dX4_next_96 : decode cX4_next 96 = .ok (.if_icmp .ne 24, 3) := by decide +kernel
theorem dX4_next_99 : decode cX4_next 99 = .ok (.aload_n 0, 1) := by decide +kernel
theorem dX4_next_100 : decode cX4_next 100 = .ok (.getfield 22, 3) := by decide +kernel
theorem dX4_next_103 : decode cX4_next 103 = .ok (.aload_n 0, 1) := by decide +kernel
theorem dX4_next_104 : decode cX4_next 104 = .ok (.getfield 19, 3) := by decide +kernel
theorem dX4_next_107 : decode cX4_next 107 = .ok (.if_icmp .ge 13, 3) := by decide +kernel
theorem dX4_next_110 : decode cX4_next 110 = .ok (.aload_n 0, 1) := by decide +kernel
theorem dX4_next_111 : decode cX4_next 111 = .ok (.dup, 1) := by decide +kernel
theorem dX4_next_112 : decode cX4_next 112 = .ok (.getfield 25, 3) := by decide +kernel
theorem dX4_next_115 : decode cX4_next 115 = .ok (.iconst 1, 1) := by decide +kernel
theorem dX4_next_116 : decode cX4_next 116 = .ok (.iadd, 1) := by decide +kernel
theorem dX4_next_117 : decode cX4_next 117 = .ok (.putfield 25, 3) := by decide +kernel
theorem dX4_next_120 : decode cX4_next 120 = .ok (.aload_n 0, 1) := by decide +kernel
theorem dX4_next_121 : decode cX4_next 121 = .ok (.getfield 22, 3) := by decide +kernel
theorem dX4_next_124 : decode cX4_next 124 = .ok (.aload_n 0, 1) := by decide +kernel
theorem dX4_next_125 : decode cX4_next 125 = .ok (.getfield 19, 3) := by decide +kernel
theorem dX4_next_128 : decode cX4_next 128 = .ok (.if_icmp .ge 7, 3) := by decide +kernel
theorem dX4_next_131 : decode cX4_next 131 = .ok (.iconst 1, 1) := by decide +kernel
theorem dX4_next_132 : decode cX4_next 132 = .ok (.goto 4, 3) := by decide +kernel
theorem dX4_next_135 : decode cX4_next 135 = .ok (.iconst 0, 1) := by decide +kernel
theorem dX4_next_136 : decode cX4_next 136 = .ok (.ireturn, 1) := by decide +kernel
theorem dX4_isWord_0 : decode cX4_isWord 0 = .ok (.aload_n 0, 1) := by decide +kernel
theorem dX4_isWord_1 : decode cX4_isWord 1 = .ok (.aload_n 0, 1) := by decide +kernel
theorem dX4_isWord_2 : decode cX4_isWord 2 = .ok (.getfield 22, 3) := by decide +kernel
theorem dX4_isWord_5 : decode cX4_isWord 5 = .ok (.invokevirtual 32, 3) := by decide +kernel
theorem dX4_isWord_8 : decode cX4_isWord 8 = .ok (.ireturn, 1) := by decide +kernel
theorem dX4_isStop_0 : decode cX4_isStop 0 = .ok (.aload_n 0, 1) := by decide +kernel
theorem dX4_isStop_1 : decode cX4_isStop 1 = .ok (.aload_n 0, 1) := by decide +kernel
theorem dX4_isStop_2 : decode cX4_isStop 2 = .ok (.getfield 22, 3) := by decide +kernel
theorem dX4_isStop_5 : decode cX4_isStop 5 = .ok (.invokevirtual 28, 3) := by decide +kernel
theorem dX4_isStop_8 : decode cX4_isStop 8 = .ok (.bipush 46, 2) := by decide +kernel
theorem dX4_isStop_10 : decode cX4_isStop 10 = .ok (.if_icmp .ne 7, 3) := by decide +kernel
theorem dX4_isStop_13 : decode cX4_isStop 13 = .ok (.iconst 1, 1) := by decide +kernel
theorem dX4_isStop_14 : decode cX4_isStop 14 = .ok (.goto 4, 3) := by decide +kernel
theorem dX4_isStop_17 : decode cX4_isStop 17 = .ok (.iconst 0, 1) := by decide +kernel
theorem dX4_isStop_18 : decode cX4_isStop 18 = .ok (.ireturn, 1) := by decide +kernel
theorem dX4_codeOfThing_0 : decode cX4_codeOfThing 0 = .ok (.aload_n 0, 1) := by decide +kernel
theorem dX4_codeOfThing_1 : decode cX4_codeOfThing 1 = .ok (.invokevirtual 36, 3) := by decide +kernel
theorem dX4_codeOfThing_4 : decode cX4_codeOfThing 4 = .ok (.ifCond .eq 17, 3) := by decide +kernel
theorem dX4_codeOfThing_7 : decode cX4_codeOfThing 7 = .ok (.aload_n 0, 1) := by decide +kernel
theorem dX4_codeOfThing_8 : decode cX4_codeOfThing 8 = .ok (.getfield 25, 3) := by decide +kernel
theorem dX4_codeOfThing_11 : decode cX4_codeOfThing 11 = .ok (.aload_n 0, 1) := by decide +kernel
theorem dX4_codeOfThing_12 : decode cX4_codeOfThing 12 = .ok (.getfield 22, 3) := by decide +kernel
theorem dX4_codeOfThing_15 : decode cX4_codeOfThing 15 = .ok (.isub, 1) := by decide +kernel
theorem dX4_codeOfThing_16 : decode cX4_codeOfThing 16 = .ok (.bipush 12, 2) := by decide +kernel
theorem dX4_codeOfThing_18 : decode cX4_codeOfThing 18 = .ok (.if_icmp .le 5, 3) := by decide +kernel
theorem dX4_codeOfThing_21 : decode cX4_codeOfThing 21 = .ok (.lconst 0, 1) := by decide +kernel
theorem dX4_codeOfThing_22 : decode cX4_codeOfThing 22 = .ok (.lreturn, 1) := by decide +kernel
theorem dX4_codeOfThing_23 : decode cX4_codeOfThing 23 = .ok (.lconst 0, 1) := by decide +kernel
theorem dX4_codeOfThing_24 : decode cX4_codeOfThing 24 = .ok (.lstore_n 1, 1) := by decide +kernel
theorem dX4_codeOfThing_25 : decode cX4_codeOfThing 25 = .ok (.aload_n 0, 1) := by decide +kernel
theorem dX4_codeOfThing_26 : decode cX4_codeOfThing 26 = .ok (.getfield 22, 3) := by decide +kernel
theorem dX4_codeOfThing_29 : decode cX4_codeOfThing 29 = .ok (.istore_n 3, 1) := by decide +kernel
theorem dX4_codeOfThing_30 : decode cX4_codeOfThing 30 = .ok (.iload_n 3, 1) := by decide +kernel
theorem dX4_codeOfThing_31 : decode cX4_codeOfThing 31 = .ok (.aload_n 0, 1) := by decide +kernel
theorem dX4_codeOfThing_32 : decode cX4_codeOfThing 32 = .ok (.getfield 25, 3) := by decide +kernel
theorem dX4_codeOfThing_35 : decode cX4_codeOfThing 35 = .ok (.if_icmp .ge 25, 3) := by decide +kernel
theorem dX4_codeOfThing_38 : decode cX4_codeOfThing 38 = .ok (.lload_n 1, 1) := by decide +kernel
theorem dX4_codeOfThing_39 : decode cX4_codeOfThing 39 = .ok (.iconst 5, 1) := by decide +kernel
theorem dX4_codeOfThing_40 : decode cX4_codeOfThing 40 = .ok (.lshl, 1) := by decide +kernel
theorem dX4_codeOfThing_41 : decode cX4_codeOfThing 41 = .ok (.aload_n 0, 1) := by decide +kernel
theorem dX4_codeOfThing_42 : decode cX4_codeOfThing 42 = .ok (.iload_n 3, 1) := by decide +kernel
theorem dX4_codeOfThing_43 : decode cX4_codeOfThing 43 = .ok (.invokevirtual 28, 3) := by decide +kernel
theorem dX4_codeOfThing_46 : decode cX4_codeOfThing 46 = .ok (.bipush 97, 2) := by decide +kernel
theorem dX4_codeOfThing_48 : decode cX4_codeOfThing 48 = .ok (.isub, 1) := by decide +kernel
theorem dX4_codeOfThing_49 : decode cX4_codeOfThing 49 = .ok (.iconst 1, 1) := by decide +kernel
theorem dX4_codeOfThing_50 : decode cX4_codeOfThing 50 = .ok (.iadd, 1) := by decide +kernel
theorem dX4_codeOfThing_51 : decode cX4_codeOfThing 51 = .ok (.i2l, 1) := by decide +kernel
theorem dX4_codeOfThing_52 : decode cX4_codeOfThing 52 = .ok (.ladd, 1) := by decide +kernel
theorem dX4_codeOfThing_53 : decode cX4_codeOfThing 53 = .ok (.lstore_n 1, 1) := by decide +kernel
theorem dX4_codeOfThing_54 : decode cX4_codeOfThing 54 = .ok (.iinc 3 1, 3) := by decide +kernel
theorem dX4_codeOfThing_57 : decode cX4_codeOfThing 57 = .ok (.goto (-27), 3) := by decide +kernel
theorem dX4_codeOfThing_60 : decode cX4_codeOfThing 60 = .ok (.lload_n 1, 1) := by decide +kernel
theorem dX4_codeOfThing_61 : decode cX4_codeOfThing 61 = .ok (.lreturn, 1) := by decide +kernel
theorem dX4_isLetterAt_0 : decode cX4_isLetterAt 0 = .ok (.aload_n 0, 1) := by decide +kernel
theorem dX4_isLetterAt_1 : decode cX4_isLetterAt 1 = .ok (.iload_n 1, 1) := by decide +kernel
theorem dX4_isLetterAt_2 : decode cX4_isLetterAt 2 = .ok (.invokevirtual 28, 3) := by decide +kernel
theorem dX4_isLetterAt_5 : decode cX4_isLetterAt 5 = .ok (.istore_n 2, 1) := by decide +kernel
theorem dX4_isLetterAt_6 : decode cX4_isLetterAt 6 = .ok (.iload_n 2, 1) := by decide +kernel
theorem dX4_isLetterAt_7 : decode cX4_isLetterAt 7 = .ok (.bipush 97, 2) := by decide +kernel
theorem dX4_isLetterAt_9 : decode cX4_isLetterAt 9 = .ok (.if_icmp .lt 13, 3) := by decide +kernel
theorem dX4_isLetterAt_12 : decode cX4_isLetterAt 12 = .ok (.iload_n 2, 1) := by decide +kernel
theorem dX4_isLetterAt_13 : decode cX4_isLetterAt 13 = .ok (.bipush 122, 2) := by decide +kernel
theorem dX4_isLetterAt_15 : decode cX4_isLetterAt 15 = .ok (.if_icmp .gt 7, 3) := by decide +kernel
theorem dX4_isLetterAt_18 : decode cX4_isLetterAt 18 = .ok (.iconst 1, 1) := by decide +kernel
theorem dX4_isLetterAt_19 : decode cX4_isLetterAt 19 = .ok (.goto 4, 3) := by decide +kernel
theorem dX4_isLetterAt_22 : decode cX4_isLetterAt 22 = .ok (.iconst 0, 1) := by decide +kernel
theorem dX4_isLetterAt_23 : decode cX4_isLetterAt 23 = .ok (.ireturn, 1) := by decide +kernel
theorem dX4_byteAt_0 : decode cX4_byteAt 0 = .ok (.iload_n 1, 1) := by decide +kernel
theorem dX4_byteAt_1 : decode cX4_byteAt 1 = .ok (.ifCond .lt 33, 3) := by decide +kernel
theorem dX4_byteAt_4 : decode cX4_byteAt 4 = .ok (.iload_n 1, 1) := by decide +kernel
theorem dX4_byteAt_5 : decode cX4_byteAt 5 = .ok (.aload_n 0, 1) := by decide +kernel
theorem dX4_byteAt_6 : decode cX4_byteAt 6 = .ok (.getfield 19, 3) := by decide +kernel
theorem dX4_byteAt_9 : decode cX4_byteAt 9 = .ok (.if_icmp .ge 25, 3) := by decide +kernel
theorem dX4_byteAt_12 : decode cX4_byteAt 12 = .ok (.iload_n 1, 1) := by decide +kernel
theorem dX4_byteAt_13 : decode cX4_byteAt 13 = .ok (.aload_n 0, 1) := by decide +kernel
theorem dX4_byteAt_14 : decode cX4_byteAt 14 = .ok (.getfield 9, 3) := by decide +kernel
theorem dX4_byteAt_17 : decode cX4_byteAt 17 = .ok (.arraylength, 1) := by decide +kernel
theorem dX4_byteAt_18 : decode cX4_byteAt 18 = .ok (.if_icmp .ge 16, 3) := by decide +kernel
theorem dX4_byteAt_21 : decode cX4_byteAt 21 = .ok (.aload_n 0, 1) := by decide +kernel
theorem dX4_byteAt_22 : decode cX4_byteAt 22 = .ok (.getfield 9, 3) := by decide +kernel
theorem dX4_byteAt_25 : decode cX4_byteAt 25 = .ok (.iload_n 1, 1) := by decide +kernel
theorem dX4_byteAt_26 : decode cX4_byteAt 26 = .ok (.baload, 1) := by decide +kernel
theorem dX4_byteAt_27 : decode cX4_byteAt 27 = .ok (.sipush 255, 3) := by decide +kernel
theorem dX4_byteAt_30 : decode cX4_byteAt 30 = .ok (.iand, 1) := by decide +kernel
theorem dX4_byteAt_31 : decode cX4_byteAt 31 = .ok (.goto 4, 3) := by decide +kernel
theorem dX4_byteAt_34 : decode cX4_byteAt 34 = .ok (.iconst (-1), 1) := by decide +kernel
theorem dX4_byteAt_35 : decode cX4_byteAt 35 = .ok (.ireturn, 1) := by decide +kernel
theorem dX5_init_0 : decode cX5_init 0 = .ok (.aload_n 0, 1) := by decide +kernel
theorem dX5_init_1 : decode cX5_init 1 = .ok (.invokespecial 3, 3) := by decide +kernel
theorem dX5_init_4 : decode cX5_init 4 = .ok (.aload_n 0, 1) := by decide +kernel
theorem dX5_init_5 : decode cX5_init 5 = .ok (.bipush 60, 2) := by decide +kernel
theorem dX5_init_7 : decode cX5_init 7 = .ok (.newarray .long, 2) := by decide +kernel
theorem dX5_init_9 : decode cX5_init 9 = .ok (.putfield 9, 3) := by decide +kernel
theorem dX5_init_12 : decode cX5_init 12 = .ok (.aload_n 0, 1) := by decide +kernel
theorem dX5_init_13 : decode cX5_init 13 = .ok (.bipush 60, 2) := by decide +kernel
theorem dX5_init_15 : decode cX5_init 15 = .ok (.newarray .int, 2) := by decide +kernel
theorem dX5_init_17 : decode cX5_init 17 = .ok (.putfield 15, 3) := by decide +kernel
theorem dX5_init_20 : decode cX5_init 20 = .ok (.aload_n 0, 1) := by decide +kernel
theorem dX5_init_21 : decode cX5_init 21 = .ok (.iconst 0, 1) := by decide +kernel
theorem dX5_init_22 : decode cX5_init 22 = .ok (.putfield 19, 3) := by decide +kernel
theorem dX5_init_25 : decode cX5_init 25 = .ok (.aload_n 0, 1) := by decide +kernel
theorem dX5_init_26 : decode cX5_init 26 = .ok (.iconst 0, 1) := by decide +kernel
theorem dX5_init_27 : decode cX5_init 27 = .ok (.putfield 23, 3) := by decide +kernel
theorem dX5_init_30 : decode cX5_init 30 = .ok (.aload_n 0, 1) := by decide +kernel
theorem dX5_init_31 : decode cX5_init 31 = .ok (.iconst 0, 1) := by decide +kernel
theorem dX5_init_32 : decode cX5_init 32 = .ok (.putfield 26, 3) := by decide +kernel
theorem dX5_init_35 : decode cX5_init 35 = .ok (.return_, 1) := by decide +kernel
theorem dX5_clear_0 : decode cX5_clear 0 = .ok (.aload_n 0, 1) := by decide +kernel
theorem dX5_clear_1 : decode cX5_clear 1 = .ok (.iconst 0, 1) := by decide +kernel
theorem dX5_clear_2 : decode cX5_clear 2 = .ok (.putfield 19, 3) := by decide +kernel
theorem dX5_clear_5 : decode cX5_clear 5 = .ok (.aload_n 0, 1) := by decide +kernel
theorem dX5_clear_6 : decode cX5_clear 6 = .ok (.iconst 0, 1) := by decide +kernel
theorem dX5_clear_7 : decode cX5_clear 7 = .ok (.putfield 23, 3) := by decide +kernel
theorem dX5_clear_10 : decode cX5_clear 10 = .ok (.aload_n 0, 1) := by decide +kernel
theorem dX5_clear_11 : decode cX5_clear 11 = .ok (.iconst 0, 1) := by decide +kernel
theorem dX5_clear_12 : decode cX5_clear 12 = .ok (.putfield 26, 3) := by decide +kernel
theorem dX5_clear_15 : decode cX5_clear 15 = .ok (.return_, 1) := by decide +kernel
theorem dX5_beginPart_0 : decode cX5_beginPart 0 = .ok (.aload_n 0, 1) := by decide +kernel
theorem dX5_beginPart_1 : decode cX5_beginPart 1 = .ok (.dup, 1) := by decide +kernel
theorem dX5_beginPart_2 : decode cX5_beginPart 2 = .ok (.getfield 23, 3) := by decide +kernel
theorem dX5_beginPart_5 : decode cX5_beginPart 5 = .ok (.iconst 1, 1) := by decide +kernel
theorem dX5_beginPart_6 : decode cX5_beginPart 6 = .ok (.iadd, 1) := by decide +kernel
theorem dX5_beginPart_7 : decode cX5_beginPart 7 = .ok (.putfield 23, 3) := by decide +kernel
theorem dX5_beginPart_10 : decode cX5_beginPart 10 = .ok (.return_, 1) := by decide +kernel
theorem dX5_add_0 : decode cX5_add 0 = .ok (.aload_n 0, 1) := by decide +kernel
theorem dX5_add_1 : decode cX5_add 1 = .ok (.getfield 19, 3) := by decide +kernel
theorem dX5_add_4 : decode cX5_add 4 = .ok (.aload_n 0, 1) := by decide +kernel
theorem dX5_add_5 : decode cX5_add 5 = .ok (.getfield 9, 3) := by decide +kernel
theorem dX5_add_8 : decode cX5_add 8 = .ok (.arraylength, 1) := by decide +kernel
theorem dX5_add_9 : decode cX5_add 9 = .ok (.if_icmp .ge 15, 3) := by decide +kernel
theorem dX5_add_12 : decode cX5_add 12 = .ok (.aload_n 0, 1) := by decide +kernel
theorem dX5_add_13 : decode cX5_add 13 = .ok (.getfield 19, 3) := by decide +kernel
theorem dX5_add_16 : decode cX5_add 16 = .ok (.aload_n 0, 1) := by decide +kernel
theorem dX5_add_17 : decode cX5_add 17 = .ok (.getfield 15, 3) := by decide +kernel
theorem dX5_add_20 : decode cX5_add 20 = .ok (.arraylength, 1) := by decide +kernel
theorem dX5_add_21 : decode cX5_add 21 = .ok (.if_icmp .lt 4, 3) := by decide +kernel
theorem dX5_add_24 : decode cX5_add 24 = .ok (.return_, 1) := by decide +kernel
theorem dX5_add_25 : decode cX5_add 25 = .ok (.aload_n 0, 1) := by decide +kernel
theorem dX5_add_26 : decode cX5_add 26 = .ok (.getfield 9, 3) := by decide +kernel
theorem dX5_add_29 : decode cX5_add 29 = .ok (.aload_n 0, 1) := by decide +kernel
theorem dX5_add_30 : decode cX5_add 30 = .ok (.getfield 19, 3) := by decide +kernel
theorem dX5_add_33 : decode cX5_add 33 = .ok (.lload_n 1, 1) := by decide +kernel
theorem dX5_add_34 : decode cX5_add 34 = .ok (.lastore, 1) := by decide +kernel
theorem dX5_add_35 : decode cX5_add 35 = .ok (.aload_n 0, 1) := by decide +kernel
theorem dX5_add_36 : decode cX5_add 36 = .ok (.getfield 15, 3) := by decide +kernel
theorem dX5_add_39 : decode cX5_add 39 = .ok (.aload_n 0, 1) := by decide +kernel
theorem dX5_add_40 : decode cX5_add 40 = .ok (.getfield 19, 3) := by decide +kernel
theorem dX5_add_43 : decode cX5_add 43 = .ok (.aload_n 0, 1) := by decide +kernel
theorem dX5_add_44 : decode cX5_add 44 = .ok (.getfield 23, 3) := by decide +kernel
theorem dX5_add_47 : decode cX5_add 47 = .ok (.iconst 1, 1) := by decide +kernel
theorem dX5_add_48 : decode cX5_add 48 = .ok (.isub, 1) := by decide +kernel
theorem dX5_add_49 : decode cX5_add 49 = .ok (.iastore, 1) := by decide +kernel
theorem dX5_add_50 : decode cX5_add 50 = .ok (.iload_n 3, 1) := by decide +kernel
theorem dX5_add_51 : decode cX5_add 51 = .ok (.ifCond .eq 18, 3) := by decide +kernel
theorem dX5_add_54 : decode cX5_add 54 = .ok (.aload_n 0, 1) := by decide +kernel
theorem dX5_add_55 : decode cX5_add 55 = .ok (.dup, 1) := by decide +kernel
theorem dX5_add_56 : decode cX5_add 56 = .ok (.getfield 26, 3) := by decide +kernel
theorem dX5_add_59 : decode cX5_add 59 = .ok (.iconst 1, 1) := by decide +kernel
theorem dX5_add_60 : decode cX5_add 60 = .ok (.aload_n 0, 1) := by decide +kernel
theorem dX5_add_61 : decode cX5_add 61 = .ok (.getfield 19, 3) := by decide +kernel
theorem dX5_add_64 : decode cX5_add 64 = .ok (.ishl, 1) := by decide +kernel
theorem dX5_add_65 : decode cX5_add 65 = .ok (.ior, 1) := by decide +kernel
theorem dX5_add_66 : decode cX5_add 66 = .ok (.putfield 26, 3) := by decide +kernel
theorem dX5_add_69 : decode cX5_add 69 = .ok (.aload_n 0, 1) := by decide +kernel
theorem dX5_add_70 : decode cX5_add 70 = .ok (.dup, 1) := by decide +kernel
theorem dX5_add_71 : decode cX5_add 71 = .ok (.getfield 19, 3) := by decide +kernel
theorem dX5_add_74 : decode cX5_add 74 = .ok (.iconst 1, 1) := by decide +kernel
theorem dX5_add_75 : decode cX5_add 75 = .ok (.iadd, 1) := by decide +kernel
theorem dX5_add_76 : decode cX5_add 76 = .ok (.putfield 19, 3) := by decide +kernel
theorem dX5_add_79 : decode cX5_add 79 = .ok (.return_, 1) := by decide +kernel
theorem dX5_codesOf_0 : decode cX5_codesOf 0 = .ok (.iconst 0, 1) := by decide +kernel
theorem dX5_codesOf_1 : decode cX5_codesOf 1 = .ok (.istore_n 2, 1) := by decide +kernel
theorem dX5_codesOf_2 : decode cX5_codesOf 2 = .ok (.iload_n 2, 1) := by decide +kernel
theorem dX5_codesOf_3 : decode cX5_codesOf 3 = .ok (.aload_n 0, 1) := by decide +kernel
theorem dX5_codesOf_4 : decode cX5_codesOf 4 = .ok (.getfield 19, 3) := by decide +kernel
theorem dX5_codesOf_7 : decode cX5_codesOf 7 = .ok (.if_icmp .ge 19, 3) := by decide +kernel
theorem dX5_codesOf_10 : decode cX5_codesOf 10 = .ok (.aload_n 0, 1) := by decide +kernel
theorem dX5_codesOf_11 : decode cX5_codesOf 11 = .ok (.getfield 15, 3) := by decide +kernel
theorem dX5_codesOf_14 : decode cX5_codesOf 14 = .ok (.iload_n 2, 1) := by decide +kernel
theorem dX5_codesOf_15 : decode cX5_codesOf 15 = .ok (.iaload, 1) := by decide +kernel
theorem dX5_codesOf_16 : decode cX5_codesOf 16 = .ok (.iload_n 1, 1) := by decide +kernel
theorem dX5_codesOf_17 : decode cX5_codesOf 17 = .ok (.if_icmp .eq 9, 3) := by decide +kernel
theorem dX5_codesOf_20 : decode cX5_codesOf 20 = .ok (.iinc 2 1, 3) := by decide +kernel
theorem dX5_codesOf_23 : decode cX5_codesOf 23 = .ok (.goto (-21), 3) := by decide +kernel
theorem dX5_codesOf_26 : decode cX5_codesOf 26 = .ok (.iload_n 2, 1) := by decide +kernel
theorem dX5_codesOf_27 : decode cX5_codesOf 27 = .ok (.istore_n 3, 1) := by decide +kernel
theorem dX5_codesOf_28 : decode cX5_codesOf 28 = .ok (.iload_n 3, 1) := by decide +kernel
theorem dX5_codesOf_29 : decode cX5_codesOf 29 = .ok (.aload_n 0, 1) := by decide +kernel
theorem dX5_codesOf_30 : decode cX5_codesOf 30 = .ok (.getfield 19, 3) := by decide +kernel
theorem dX5_codesOf_33 : decode cX5_codesOf 33 = .ok (.if_icmp .ge 19, 3) := by decide +kernel
theorem dX5_codesOf_36 : decode cX5_codesOf 36 = .ok (.aload_n 0, 1) := by decide +kernel
theorem dX5_codesOf_37 : decode cX5_codesOf 37 = .ok (.getfield 15, 3) := by decide +kernel
theorem dX5_codesOf_40 : decode cX5_codesOf 40 = .ok (.iload_n 3, 1) := by decide +kernel
theorem dX5_codesOf_41 : decode cX5_codesOf 41 = .ok (.iaload, 1) := by decide +kernel
theorem dX5_codesOf_42 : decode cX5_codesOf 42 = .ok (.iload_n 1, 1) := by decide +kernel
theorem dX5_codesOf_43 : decode cX5_codesOf 43 = .ok (.if_icmp .ne 9, 3) := by decide +kernel
theorem dX5_codesOf_46 : decode cX5_codesOf 46 = .ok (.iinc 3 1, 3) := by decide +kernel
theorem dX5_codesOf_49 : decode cX5_codesOf 49 = .ok (.goto (-21), 3) := by decide +kernel
theorem dX5_codesOf_52 : decode cX5_codesOf 52 = .ok (.aload_n 0, 1) := by decide +kernel
theorem dX5_codesOf_53 : decode cX5_codesOf 53 = .ok (.getfield 9, 3) := by decide +kernel
theorem dX5_codesOf_56 : decode cX5_codesOf 56 = .ok (.iload_n 2, 1) := by decide +kernel
theorem dX5_codesOf_57 : decode cX5_codesOf 57 = .ok (.iload_n 3, 1) := by decide +kernel
theorem dX5_codesOf_58 : decode cX5_codesOf 58 = .ok (.invokestatic 29, 3) := by decide +kernel
theorem dX5_codesOf_61 : decode cX5_codesOf 61 = .ok (.areturn, 1) := by decide +kernel
theorem dX6_init_0 : decode cX6_init 0 = .ok (.aload_n 0, 1) := by decide +kernel
theorem dX6_init_1 : decode cX6_init 1 = .ok (.invokespecial 1, 3) := by decide +kernel
theorem dX6_init_4 : decode cX6_init 4 = .ok (.aload_n 0, 1) := by decide +kernel
theorem dX6_init_5 : decode cX6_init 5 = .ok (.new 7, 3) := by decide +kernel
theorem dX6_init_8 : decode cX6_init 8 = .ok (.dup, 1) := by decide +kernel
theorem dX6_init_9 : decode cX6_init 9 = .ok (.invokespecial 9, 3) := by decide +kernel
theorem dX6_init_12 : decode cX6_init 12 = .ok (.putfield 10, 3) := by decide +kernel
theorem dX6_init_15 : decode cX6_init 15 = .ok (.aload_n 0, 1) := by decide +kernel
theorem dX6_init_16 : decode cX6_init 16 = .ok (.new 16, 3) := by decide +kernel
theorem dX6_init_19 : decode cX6_init 19 = .ok (.dup, 1) := by decide +kernel
theorem dX6_init_20 : decode cX6_init 20 = .ok (.invokespecial 18, 3) := by decide +kernel
theorem dX6_init_23 : decode cX6_init 23 = .ok (.putfield 19, 3) := by decide +kernel
theorem dX6_init_26 : decode cX6_init 26 = .ok (.aload_n 0, 1) := by decide +kernel
theorem dX6_init_27 : decode cX6_init 27 = .ok (.iconst (-1), 1) := by decide +kernel
theorem dX6_init_28 : decode cX6_init 28 = .ok (.putfield 23, 3) := by decide +kernel
theorem dX6_init_31 : decode cX6_init 31 = .ok (.aload_n 0, 1) := by decide +kernel
theorem dX6_init_32 : decode cX6_init 32 = .ok (.iconst 0, 1) := by decide +kernel
theorem dX6_init_33 : decode cX6_init 33 = .ok (.putfield 27, 3) := by decide +kernel
theorem dX6_init_36 : decode cX6_init 36 = .ok (.aload_n 0, 1) := by decide +kernel
theorem dX6_init_37 : decode cX6_init 37 = .ok (.new 30, 3) := by decide +kernel
theorem dX6_init_40 : decode cX6_init 40 = .ok (.dup, 1) := by decide +kernel
theorem dX6_init_41 : decode cX6_init 41 = .ok (.invokespecial 32, 3) := by decide +kernel
theorem dX6_init_44 : decode cX6_init 44 = .ok (.putfield 33, 3) := by decide +kernel
theorem dX6_init_47 : decode cX6_init 47 = .ok (.aload_n 0, 1) := by decide +kernel
theorem dX6_init_48 : decode cX6_init 48 = .ok (.new 30, 3) := by decide +kernel
theorem dX6_init_51 : decode cX6_init 51 = .ok (.dup, 1) := by decide +kernel
theorem dX6_init_52 : decode cX6_init 52 = .ok (.invokespecial 32, 3) := by decide +kernel
theorem dX6_init_55 : decode cX6_init 55 = .ok (.putfield 37, 3) := by decide +kernel
theorem dX6_init_58 : decode cX6_init 58 = .ok (.aload_n 0, 1) := by decide +kernel
theorem dX6_init_59 : decode cX6_init 59 = .ok (.iconst 4, 1) := by decide +kernel
theorem dX6_init_60 : decode cX6_init 60 = .ok (.newarray .int, 2) := by decide +kernel
theorem dX6_init_62 : decode cX6_init 62 = .ok (.dup, 1) := by decide +kernel
theorem dX6_init_63 : decode cX6_init 63 = .ok (.iconst 0, 1) := by decide +kernel
theorem dX6_init_64 : decode cX6_init 64 = .ok (.iconst 5, 1) := by decide +kernel
theorem dX6_init_65 : decode cX6_init 65 = .ok (.iastore, 1) := by decide +kernel
theorem dX6_init_66 : decode cX6_init 66 = .ok (.dup, 1) := by decide +kernel
theorem dX6_init_67 : decode cX6_init 67 = .ok (.iconst 1, 1) := by decide +kernel
theorem dX6_init_68 : decode cX6_init 68 = .ok (.iconst 5, 1) := by decide +kernel
theorem dX6_init_69 : decode cX6_init 69 = .ok (.iastore, 1) := by decide +kernel
theorem dX6_init_70 : decode cX6_init 70 = .ok (.dup, 1) := by decide +kernel
theorem dX6_init_71 : decode cX6_init 71 = .ok (.iconst 2, 1) := by decide +kernel
theorem dX6_init_72 : decode cX6_init 72 = .ok (.iconst 5, 1) := by decide +kernel
theorem dX6_init_73 : decode cX6_init 73 = .ok (.iastore, 1) := by decide +kernel
theorem dX6_init_74 : decode cX6_init 74 = .ok (.dup, 1) := by decide +kernel
theorem dX6_init_75 : decode cX6_init 75 = .ok (.iconst 3, 1) := by decide +kernel
theorem dX6_init_76 : decode cX6_init 76 = .ok (.iconst 5, 1) := by decide +kernel
theorem dX6_init_77 : decode cX6_init 77 = .ok (.iastore, 1) := by decide +kernel
theorem dX6_init_78 : decode cX6_init 78 = .ok (.putfield 40, 3) := by decide +kernel
theorem dX6_init_81 : decode cX6_init 81 = .ok (.aload_n 0, 1) := by decide +kernel
theorem dX6_init_82 : decode cX6_init 82 = .ok (.bipush 10, 2) := by decide +kernel
theorem dX6_init_84 : decode cX6_init 84 = .ok (.newarray .int, 2) := by decide +kernel
theorem dX6_init_86 : decode cX6_init 86 = .ok (.putfield 44, 3) := by decide +kernel
theorem dX6_init_89 : decode cX6_init 89 = .ok (.aload_n 0, 1) := by decide +kernel
theorem dX6_init_90 : decode cX6_init 90 = .ok (.iconst 0, 1) := by decide +kernel
theorem dX6_init_91 : decode cX6_init 91 = .ok (.putfield 47, 3) := by decide +kernel
theorem dX6_init_94 : decode cX6_init 94 = .ok (.aload_n 0, 1) := by decide +kernel
theorem dX6_init_95 : decode cX6_init 95 = .ok (.sipush 401, 3) := by decide +kernel
theorem dX6_init_98 : decode cX6_init 98 = .ok (.newarray .int, 2) := by decide +kernel
theorem dX6_init_100 : decode cX6_init 100 = .ok (.putfield 50, 3) := by decide +kernel
theorem dX6_init_103 : decode cX6_init 103 = .ok (.aload_n 0, 1) := by decide +kernel
theorem dX6_init_104 : decode cX6_init 104 = .ok (.bipush 61, 2) := by decide +kernel
theorem dX6_init_106 : decode cX6_init 106 = .ok (.newarray .int, 2) := by decide +kernel
theorem dX6_init_108 : decode cX6_init 108 = .ok (.putfield 53, 3) := by decide +kernel
theorem dX6_init_111 : decode cX6_init 111 = .ok (.return_, 1) := by decide +kernel
theorem dX6_feed_0 : decode cX6_feed 0 = .ok (.aload_n 0, 1) := by decide +kernel
theorem dX6_feed_1 : decode cX6_feed 1 = .ok (.getfield 10, 3) := by decide +kernel
theorem dX6_feed_4 : decode cX6_feed 4 = .ok (.invokevirtual 56, 3) := by decide +kernel
theorem dX6_feed_7 : decode cX6_feed 7 = .ok (.ifCond .ne 5, 3) := by decide +kernel
theorem dX6_feed_10 : decode cX6_feed 10 = .ok (.iconst (-1), 1) := by decide +kernel
theorem dX6_feed_11 : decode cX6_feed 11 = .ok (.ireturn, 1) := by decide +kernel
theorem dX6_feed_12 : decode cX6_feed 12 = .ok (.aload_n 0, 1) := by decide +kernel
theorem dX6_feed_13 : decode cX6_feed 13 = .ok (.getfield 10, 3) := by decide +kernel
theorem dX6_feed_16 : decode cX6_feed 16 = .ok (.iload_n 1, 1) := by decide +kernel
theorem dX6_feed_17 : decode cX6_feed 17 = .ok (.invokevirtual 60, 3) := by decide +kernel
theorem dX6_feed_20 : decode cX6_feed 20 = .ok (.aload_n 0, 1) := by decide +kernel
theorem dX6_feed_21 : decode cX6_feed 21 = .ok (.getfield 10, 3) := by decide +kernel
theorem dX6_feed_24 : decode cX6_feed 24 = .ok (.iload_n 2, 1) := by decide +kernel
theorem dX6_feed_25 : decode cX6_feed 25 = .ok (.invokevirtual 60, 3) := by decide +kernel
theorem dX6_feed_28 : decode cX6_feed 28 = .ok (.aload_n 0, 1) := by decide +kernel
theorem dX6_feed_29 : decode cX6_feed 29 = .ok (.getfield 10, 3) := by decide +kernel
theorem dX6_feed_32 : decode cX6_feed 32 = .ok (.iload_n 3, 1) := by decide +kernel
theorem dX6_feed_33 : decode cX6_feed 33 = .ok (.invokevirtual 60, 3) := by decide +kernel
theorem dX6_feed_36 : decode cX6_feed 36 = .ok (.aload_n 0, 1) := by decide +kernel
theorem dX6_feed_37 : decode cX6_feed 37 = .ok (.getfield 10, 3) := by decide +kernel
theorem dX6_feed_40 : decode cX6_feed 40 = .ok (.iload 4, 2) := by decide +kernel
theorem dX6_feed_42 : decode cX6_feed 42 = .ok (.invokevirtual 60, 3) := by decide +kernel
theorem dX6_feed_45 : decode cX6_feed 45 = .ok (.aload_n 0, 1) := by decide +kernel
theorem dX6_feed_46 : decode cX6_feed 46 = .ok (.getfield 10, 3) := by decide +kernel
theorem dX6_feed_49 : decode cX6_feed 49 = .ok (.iload 5, 2) := by decide +kernel
theorem dX6_feed_51 : decode cX6_feed 51 = .ok (.invokevirtual 60, 3) := by decide +kernel
theorem dX6_feed_54 : decode cX6_feed 54 = .ok (.aload_n 0, 1) := by decide +kernel
theorem dX6_feed_55 : decode cX6_feed 55 = .ok (.getfield 10, 3) := by decide +kernel
theorem dX6_feed_58 : decode cX6_feed 58 = .ok (.getfield 64, 3) := by decide +kernel
theorem dX6_feed_61 : decode cX6_feed 61 = .ok (.ireturn, 1) := by decide +kernel
theorem dX6_end_0 : decode cX6_end 0 = .ok (.aload_n 0, 1) := by decide +kernel
theorem dX6_end_1 : decode cX6_end 1 = .ok (.getfield 10, 3) := by decide +kernel
theorem dX6_end_4 : decode cX6_end 4 = .ok (.iload_n 1, 1) := by decide +kernel
theorem dX6_end_5 : decode cX6_end 5 = .ok (.invokevirtual 67, 3) := by decide +kernel
theorem dX6_end_8 : decode cX6_end 8 = .ok (.ireturn, 1) := by decide +kernel
theorem dX6_cause_0 : decode cX6_cause 0 = .ok (.aload_n 0, 1) := by decide +kernel
theorem dX6_cause_1 : decode cX6_cause 1 = .ok (.getfield 10, 3) := by decide +kernel
theorem dX6_cause_4 : decode cX6_cause 4 = .ok (.invokevirtual 71, 3) := by decide +kernel
theorem dX6_cause_7 : decode cX6_cause 7 = .ok (.iload_n 1, 1) := by decide +kernel
theorem dX6_cause_8 : decode cX6_cause 8 = .ok (.iconst (-1), 1) := by decide +kernel
theorem dX6_cause_9 : decode cX6_cause 9 = .ok (.if_icmp .ne 7, 3) := by decide +kernel
theorem dX6_cause_12 : decode cX6_cause 12 = .ok (.aconst_null, 1) := by decide +kernel
theorem dX6_cause_13 : decode cX6_cause 13 = .ok (.goto 8, 3) := by decide +kernel
theorem dX6_cause_16 : decode cX6_cause 16 = .ok (.aload_n 0, 1) := by decide +kernel
theorem dX6_cause_17 : decode cX6_cause 17 = .ok (.iload_n 1, 1) := by decide +kernel
theorem dX6_cause_18 : decode cX6_cause 18 = .ok (.invokevirtual 74, 3) := by decide +kernel
theorem dX6_cause_21 : decode cX6_cause 21 = .ok (.astore 5, 2) := by decide +kernel
theorem dX6_cause_23 : decode cX6_cause 23 = .ok (.iload_n 2, 1) := by decide +kernel
theorem dX6_cause_24 : decode cX6_cause 24 = .ok (.invokestatic 78, 3) := by decide +kernel
theorem dX6_cause_27 : decode cX6_cause 27 = .ok (.iload_n 3, 1) := by decide +kernel
theorem dX6_cause_28 : decode cX6_cause 28 = .ok (.ifCond .lt 9, 3) := by decide +kernel
theorem dX6_cause_31 : decode cX6_cause 31 = .ok (.iload_n 3, 1) := by decide +kernel
theorem dX6_cause_32 : decode cX6_cause 32 = .ok (.bipush 60, 2) := by decide +kernel
theorem dX6_cause_34 : decode cX6_cause 34 = .ok (.if_icmp .le 13, 3) := by decide +kernel
theorem dX6_cause_37 : decode cX6_cause 37 = .ok (.new 81, 3) := by decide +kernel
theorem dX6_cause_40 : decode cX6_cause 40 = .ok (.dup, 1) := by decide +kernel
theorem dX6_cause_41 : decode cX6_cause 41 = .ok (.ldc 83, 2) := by decide +kernel
theorem dX6_cause_43 : decode cX6_cause 43 = .ok (.invokespecial 85, 3) := by decide +kernel
theorem dX6_cause_46 : decode cX6_cause 46 = .ok (.athrow, 1) := by decide +kernel
theorem dX6_cause_47 : decode cX6_cause 47 = .ok (.aload_n 0, 1) := by decide +kernel
theorem dX6_cause_48 : decode cX6_cause 48 = .ok (.invokevirtual 88, 3) := by decide +kernel
theorem dX6_cause_51 : decode cX6_cause 51 = .ok (.astore 6, 2) := by decide +kernel
theorem dX6_cause_53 : decode cX6_cause 53 = .ok (.aload_n 0, 1) := by decide +kernel
theorem dX6_cause_54 : decode cX6_cause 54 = .ok (.getfield 33, 3) := by decide +kernel
theorem dX6_cause_57 : decode cX6_cause 57 = .ok (.invokevirtual 92, 3) := by decide +kernel
theorem dX6_cause_60 : decode cX6_cause 60 = .ok (.bipush 12, 2) := by decide +kernel
theorem dX6_cause_62 : decode cX6_cause 62 = .ok (.if_icmp .lt 13, 3) := by decide +kernel
theorem dX6_cause_65 : decode cX6_cause 65 = .ok (.new 96, 3) := by decide +kernel
theorem dX6_cause_68 : decode cX6_cause 68 = .ok (.dup, 1) := by decide +kernel
theorem dX6_cause_69 : decode cX6_cause 69 = .ok (.ldc 98, 2) := by decide +kernel
theorem dX6_cause_71 : decode cX6_cause 71 = .ok (.invokespecial 100, 3) := by decide +kernel
theorem dX6_cause_74 : decode cX6_cause 74 = .ok (.athrow, 1) := by decide +kernel
theorem dX6_cause_75 : decode cX6_cause 75 = .ok (.aload_n 0, 1) := by decide +kernel
theorem dX6_cause_76 : decode cX6_cause 76 = .ok (.getfield 33, 3) := by decide +kernel
theorem dX6_cause_79 : decode cX6_cause 79 = .ok (.new 101, 3) := by decide +kernel
theorem dX6_cause_82 : decode cX6_cause 82 = .ok (.dup, 1) := by decide +kernel
theorem dX6_cause_83 : decode cX6_cause 83 = .ok (.aload_n 0, 1) := by decide +kernel
theorem dX6_cause_84 : decode cX6_cause 84 = .ok (.getfield 33, 3) := by decide +kernel
theorem dX6_cause_87 : decode cX6_cause 87 = .ok (.invokevirtual 92, 3) := by decide +kernel
theorem dX6_cause_90 : decode cX6_cause 90 = .ok (.aload 5, 2) := by decide +kernel
theorem dX6_cause_92 : decode cX6_cause 92 = .ok (.iload_n 2, 1) := by decide +kernel
theorem dX6_cause_93 : decode cX6_cause 93 = .ok (.iload_n 3, 1) := by decide +kernel
theorem dX6_cause_94 : decode cX6_cause 94 = .ok (.iload 4, 2) := by decide +kernel
theorem dX6_cause_96 : decode cX6_cause 96 = .ok (.aload 6, 2) := by decide +kernel
theorem dX6_cause_98 : decode cX6_cause 98 = .ok (.invokespecial 103, 3) := by decide +kernel
theorem dX6_cause_101 : decode cX6_cause 101 = .ok (.invokevirtual 106, 3) := by decide +kernel
theorem dX6_cause_104 : decode cX6_cause 104 = .ok (.pop, 1) := by decide +kernel
theorem dX6_cause_105 : decode cX6_cause 105 = .ok (.aload_n 0, 1) := by decide +kernel
theorem dX6_cause_106 : decode cX6_cause 106 = .ok (.getfield 33, 3) := by decide +kernel
theorem dX6_cause_109 : decode cX6_cause 109 = .ok (.invokevirtual 92, 3) := by decide +kernel
theorem dX6_cause_112 : decode cX6_cause 112 = .ok (.iconst 1, 1) := by decide +kernel
theorem dX6_cause_113 : decode cX6_cause 113 = .ok (.isub, 1) := by decide +kernel
theorem dX6_cause_114 : decode cX6_cause 114 = .ok (.ireturn, 1) := by decide +kernel
theorem dX6_pattern_0 : decode cX6_pattern 0 = .ok (.aload_n 0, 1) := by decide +kernel
theorem dX6_pattern_1 : decode cX6_pattern 1 = .ok (.getfield 10, 3) := by decide +kernel
theorem dX6_pattern_4 : decode cX6_pattern 4 = .ok (.invokevirtual 71, 3) := by decide +kernel
theorem dX6_pattern_7 : decode cX6_pattern 7 = .ok (.aload_n 0, 1) := by decide +kernel
theorem dX6_pattern_8 : decode cX6_pattern 8 = .ok (.iload_n 1, 1) := by decide +kernel
theorem dX6_pattern_9 : decode cX6_pattern 9 = .ok (.invokevirtual 74, 3) := by decide +kernel
theorem dX6_pattern_12 : decode cX6_pattern 12 = .ok (.astore_n 2, 1) := by decide +kernel
theorem dX6_pattern_13 : decode cX6_pattern 13 = .ok (.aload_n 2, 1) := by decide +kernel
theorem dX6_pattern_14 : decode cX6_pattern 14 = .ok (.aload_n 0, 1) := by decide +kernel
theorem dX6_pattern_15 : decode cX6_pattern 15 = .ok (.invokevirtual 88, 3) := by decide +kernel
theorem dX6_pattern_18 : decode cX6_pattern 18 = .ok (.putfield 110, 3) := by decide +kernel
theorem dX6_pattern_21 : decode cX6_pattern 21 = .ok (.aload_n 0, 1) := by decide +kernel
theorem dX6_pattern_22 : decode cX6_pattern 22 = .ok (.invokevirtual 114, 3) := by decide +kernel
theorem dX6_pattern_25 : decode cX6_pattern 25 = .ok (.ireturn, 1) := by decide +kernel
theorem dX6_letter_0 : decode cX6_letter 0 = .ok (.aload_n 0, 1) := by decide +kernel
theorem dX6_letter_1 : decode cX6_letter 1 = .ok (.getfield 10, 3) := by decide +kernel
theorem dX6_letter_4 : decode cX6_letter 4 = .ok (.invokevirtual 71, 3) := by decide +kernel
theorem dX6_letter_7 : decode cX6_letter 7 = .ok (.iload_n 1, 1) := by decide +kernel
theorem dX6_letter_8 : decode cX6_letter 8 = .ok (.ifCond .lt 9, 3) := by decide +kernel
theorem dX6_letter_11 : decode cX6_letter 11 = .ok (.iload_n 1, 1) := by decide +kernel
theorem dX6_letter_12 : decode cX6_letter 12 = .ok (.bipush 50, 2) := by decide +kernel
theorem dX6_letter_14 : decode cX6_letter 14 = .ok (.if_icmp .lt 13, 3) := by decide +kernel
theorem dX6_letter_17 : decode cX6_letter 17 = .ok (.new 81, 3) := by decide +kernel
theorem dX6_letter_20 : decode cX6_letter 20 = .ok (.dup, 1) := by decide +kernel
theorem dX6_letter_21 : decode cX6_letter 21 = .ok (.ldc 117, 2) := by decide +kernel
theorem dX6_letter_23 : decode cX6_letter 23 = .ok (.invokespecial 85, 3) := by decide +kernel
theorem dX6_letter_26 : decode cX6_letter 26 = .ok (.athrow, 1) := by decide +kernel
theorem dX6_letter_27 : decode cX6_letter 27 = .ok (.aload_n 0, 1) := by decide +kernel
theorem dX6_letter_28 : decode cX6_letter 28 = .ok (.aload_n 0, 1) := by decide +kernel
theorem dX6_letter_29 : decode cX6_letter 29 = .ok (.getfield 10, 3) := by decide +kernel
theorem dX6_letter_32 : decode cX6_letter 32 = .ok (.aload_n 0, 1) := by decide +kernel
theorem dX6_letter_33 : decode cX6_letter 33 = .ok (.getfield 19, 3) := by decide +kernel
theorem dX6_letter_36 : decode cX6_letter 36 = .ok (.invokestatic 119, 3) := by decide +kernel
theorem dX6_letter_39 : decode cX6_letter 39 = .ok (.putfield 23, 3) := by decide +kernel
theorem dX6_letter_42 : decode cX6_letter 42 = .ok (.aload_n 0, 1) := by decide +kernel
theorem dX6_letter_43 : decode cX6_letter 43 = .ok (.getfield 23, 3) := by decide +kernel
theorem dX6_letter_46 : decode cX6_letter 46 = .ok (.iconst (-1), 1) := by decide +kernel
theorem dX6_letter_47 : decode cX6_letter 47 = .ok (.if_icmp .eq 13, 3) := by decide +kernel
theorem dX6_letter_50 : decode cX6_letter 50 = .ok (.new 81, 3) := by decide +kernel
theorem dX6_letter_53 : decode cX6_letter 53 = .ok (.dup, 1) := by decide +kernel
theorem dX6_letter_54 : decode cX6_letter 54 = .ok (.ldc 125, 2) := by decide +kernel
theorem dX6_letter_56 : decode cX6_letter 56 = .ok (.invokespecial 85, 3) := by decide +kernel
theorem dX6_letter_59 : decode cX6_letter 59 = .ok (.athrow, 1) := by decide +kernel
theorem dX6_letter_60 : decode cX6_letter 60 = .ok (.aload_n 0, 1) := by decide +kernel
theorem dX6_letter_61 : decode cX6_letter 61 = .ok (.getfield 37, 3) := by decide +kernel
theorem dX6_letter_64 : decode cX6_letter 64 = .ok (.invokevirtual 92, 3) := by decide +kernel
theorem dX6_letter_67 : decode cX6_letter 67 = .ok (.bipush 80, 2) := by decide +kernel
theorem dX6_letter_69 : decode cX6_letter 69 = .ok (.if_icmp .lt 13, 3) := by decide +kernel
theorem dX6_letter_72 : decode cX6_letter 72 = .ok (.new 96, 3) := by decide +kernel
theorem dX6_letter_75 : decode cX6_letter 75 = .ok (.dup, 1) := by decide +kernel
theorem dX6_letter_76 : decode cX6_letter 76 = .ok (.ldc 127, 2) := by decide +kernel
theorem dX6_letter_78 : decode cX6_letter 78 = .ok (.invokespecial 100, 3) := by decide +kernel
theorem dX6_letter_81 : decode cX6_letter 81 = .ok (.athrow, 1) := by decide +kernel
theorem dX6_letter_82 : decode cX6_letter 82 = .ok (.new 120, 3) := by decide +kernel
theorem dX6_letter_85 : decode cX6_letter 85 = .ok (.dup, 1) := by decide +kernel
theorem dX6_letter_86 : decode cX6_letter 86 = .ok (.iload_n 1, 1) := by decide +kernel
theorem dX6_letter_87 : decode cX6_letter 87 = .ok (.aload_n 0, 1) := by decide +kernel
theorem dX6_letter_88 : decode cX6_letter 88 = .ok (.getfield 27, 3) := by decide +kernel
theorem dX6_letter_91 : decode cX6_letter 91 = .ok (.invokespecial 129, 3) := by decide +kernel
theorem dX6_letter_94 : decode cX6_letter 94 = .ok (.astore_n 2, 1) := by decide +kernel
theorem dX6_letter_95 : decode cX6_letter 95 = .ok (.iconst 0, 1) := by decide +kernel
theorem dX6_letter_96 : decode cX6_letter 96 = .ok (.istore_n 3, 1) := by decide +kernel
theorem dX6_letter_97 : decode cX6_letter 97 = .ok (.iload_n 3, 1) := by decide +kernel
theorem dX6_letter_98 : decode cX6_letter 98 = .ok (.aload_n 0, 1) := by decide +kernel
theorem dX6_letter_99 : decode cX6_letter 99 = .ok (.getfield 19, 3) := by decide +kernel
theorem dX6_letter_102 : decode cX6_letter 102 = .ok (.getfield 132, 3) := by decide +kernel
theorem dX6_letter_105 : decode cX6_letter 105 = .ok (.if_icmp .ge 58, 3) := by decide +kernel
theorem dX6_letter_108 : decode cX6_letter 108 = .ok (.iload_n 3, 1) := by decide +kernel
theorem dX6_letter_109 : decode cX6_letter 109 = .ok (.bipush 6, 2) := by decide +kernel
theorem dX6_letter_111 : decode cX6_letter 111 = .ok (.if_icmp .ge 52, 3) := by decide +kernel
theorem dX6_letter_114 : decode cX6_letter 114 = .ok (.new 135, 3) := by decide +kernel
theorem dX6_letter_117 : decode cX6_letter 117 = .ok (.dup, 1) := by decide +kernel
theorem dX6_letter_118 : decode cX6_letter 118 = .ok (.aload_n 0, 1) := by decide +kernel
theorem dX6_letter_119 : decode cX6_letter 119 = .ok (.getfield 19, 3) := by decide +kernel
theorem dX6_letter_122 : decode cX6_letter 122 = .ok (.iload_n 3, 1) := by decide +kernel
theorem dX6_letter_123 : decode cX6_letter 123 = .ok (.invokevirtual 137, 3) := by decide +kernel
theorem dX6_letter_126 : decode cX6_letter 126 = .ok (.invokespecial 141, 3) := by decide +kernel
theorem dX6_letter_129 : decode cX6_letter 129 = .ok (.astore 4, 2) := by decide +kernel
theorem dX6_letter_131 : decode cX6_letter 131 = .ok (.aload 4, 2) := by decide +kernel
theorem dX6_letter_133 : decode cX6_letter 133 = .ok (.aload_n 0, 1) := by decide +kernel
theorem dX6_letter_134 : decode cX6_letter 134 = .ok (.aload 4, 2) := by decide +kernel
theorem dX6_letter_136 : decode cX6_letter 136 = .ok (.invokevirtual 144, 3) := by decide +kernel
theorem dX6_letter_139 : decode cX6_letter 139 = .ok (.aload_n 2, 1) := by decide +kernel
theorem dX6_letter_140 : decode cX6_letter 140 = .ok (.getfield 148, 3) := by decide +kernel
theorem dX6_letter_143 : decode cX6_letter 143 = .ok (.invokevirtual 151, 3) := by decide +kernel
theorem dX6_letter_146 : decode cX6_letter 146 = .ok (.pop, 1) := by decide +kernel
theorem dX6_letter_147 : decode cX6_letter 147 = .ok (.aload_n 2, 1) := by decide +kernel
theorem dX6_letter_148 : decode cX6_letter 148 = .ok (.getfield 155, 3) := by decide +kernel
theorem dX6_letter_151 : decode cX6_letter 151 = .ok (.aload 4, 2) := by decide +kernel
theorem dX6_letter_153 : decode cX6_letter 153 = .ok (.invokevirtual 106, 3) := by decide +kernel
theorem dX6_letter_156 : decode cX6_letter 156 = .ok (.pop, 1) := by decide +kernel
theorem dX6_letter_157 : decode cX6_letter 157 = .ok (.iinc 3 1, 3) := by decide +kernel
theorem dX6_letter_160 : decode cX6_letter 160 = .ok (.goto (-63), 3) := by decide +kernel
theorem dX6_letter_163 : decode cX6_letter 163 = .ok (.aload_n 0, 1) := by decide +kernel
theorem dX6_letter_164 : decode cX6_letter 164 = .ok (.getfield 37, 3) := by decide +kernel
theorem dX6_letter_167 : decode cX6_letter 167 = .ok (.aload_n 2, 1) := by decide +kernel
theorem dX6_letter_168 : decode cX6_letter 168 = .ok (.invokevirtual 106, 3) := by decide +kernel
theorem dX6_letter_171 : decode cX6_letter 171 = .ok (.pop, 1) := by decide +kernel
theorem dX6_letter_172 : decode cX6_letter 172 = .ok (.aload_n 0, 1) := by decide +kernel
theorem dX6_letter_173 : decode cX6_letter 173 = .ok (.getfield 37, 3) := by decide +kernel
theorem dX6_letter_176 : decode cX6_letter 176 = .ok (.invokevirtual 92, 3) := by decide +kernel
theorem dX6_letter_179 : decode cX6_letter 179 = .ok (.iconst 1, 1) := by decide +kernel
theorem dX6_letter_180 : decode cX6_letter 180 = .ok (.isub, 1) := by decide +kernel
theorem dX6_letter_181 : decode cX6_letter 181 = .ok (.ireturn, 1) := by decide +kernel
theorem dX6_fault_0 : decode cX6_fault 0 = .ok (.aload_n 0, 1) := by decide +kernel
theorem dX6_fault_1 : decode cX6_fault 1 = .ok (.getfield 23, 3) := by decide +kernel
theorem dX6_fault_4 : decode cX6_fault 4 = .ok (.ireturn, 1) := by decide +kernel
theorem dX6_hours_0 : decode cX6_hours 0 = .ok (.iload_n 1, 1) := by decide +kernel
theorem dX6_hours_1 : decode cX6_hours 1 = .ok (.invokestatic 78, 3) := by decide +kernel
theorem dX6_hours_4 : decode cX6_hours 4 = .ok (.iload_n 2, 1) := by decide +kernel
theorem dX6_hours_5 : decode cX6_hours 5 = .ok (.ifCond .lt 9, 3) := by decide +kernel
theorem dX6_hours_8 : decode cX6_hours 8 = .ok (.iload_n 2, 1) := by decide +kernel
theorem dX6_hours_9 : decode cX6_hours 9 = .ok (.bipush 20, 2) := by decide +kernel
theorem dX6_hours_11 : decode cX6_hours 11 = .ok (.if_icmp .le 13, 3) := by decide +kernel
theorem dX6_hours_14 : decode cX6_hours 14 = .ok (.new 81, 3) := by decide +kernel
theorem dX6_hours_17 : decode cX6_hours 17 = .ok (.dup, 1) := by decide +kernel
theorem dX6_hours_18 : decode cX6_hours 18 = .ok (.ldc 158, 2) := by decide +kernel
theorem dX6_hours_20 : decode cX6_hours 20 = .ok (.invokespecial 85, 3) := by decide +kernel
theorem dX6_hours_23 : decode cX6_hours 23 = .ok (.athrow, 1) := by decide +kernel
theorem dX6_hours_24 : decode cX6_hours 24 = .ok (.aload_n 0, 1) := by decide +kernel
theorem dX6_hours_25 : decode cX6_hours 25 = .ok (.getfield 40, 3) := by decide +kernel
theorem dX6_hours_28 : decode cX6_hours 28 = .ok (.iload_n 1, 1) := by decide +kernel
theorem dX6_hours_29 : decode cX6_hours 29 = .ok (.iload_n 2, 1) := by decide +kernel
theorem dX6_hours_30 : decode cX6_hours 30 = .ok (.iastore, 1) := by decide +kernel
theorem dX6_hours_31 : decode cX6_hours 31 = .ok (.return_, 1) := by decide +kernel
theorem dX6_days_0 : decode cX6_days 0 = .ok (.iload_n 1, 1) := by decide +kernel
theorem dX6_days_1 : decode cX6_days 1 = .ok (.ifCond .lt 9, 3) := by decide +kernel
theorem dX6_days_4 : decode cX6_days 4 = .ok (.iload_n 1, 1) := by decide +kernel
theorem dX6_days_5 : decode cX6_days 5 = .ok (.bipush 60, 2) := by decide +kernel
theorem dX6_days_7 : decode cX6_days 7 = .ok (.if_icmp .le 13, 3) := by decide +kernel
theorem dX6_days_10 : decode cX6_days 10 = .ok (.new 81, 3) := by decide +kernel
theorem dX6_days_13 : decode cX6_days 13 = .ok (.dup, 1) := by decide +kernel
theorem dX6_days_14 : decode cX6_days 14 = .ok (.ldc 83, 2) := by decide +kernel
theorem dX6_days_16 : decode cX6_days 16 = .ok (.invokespecial 85, 3) := by decide +kernel
theorem dX6_days_19 : decode cX6_days 19 = .ok (.athrow, 1) := by decide +kernel
theorem dX6_days_20 : decode cX6_days 20 = .ok (.iconst 0, 1) := by decide +kernel
theorem dX6_days_21 : decode cX6_days 21 = .ok (.istore_n 2, 1) := by decide +kernel
theorem dX6_days_22 : decode cX6_days 22 = .ok (.iload_n 2, 1) := by decide +kernel
theorem dX6_days_23 : decode cX6_days 23 = .ok (.iload_n 1, 1) := by decide +kernel
theorem dX6_days_24 : decode cX6_days 24 = .ok (.if_icmp .ge 47, 3) := by decide +kernel
theorem dX6_days_27 : decode cX6_days 27 = .ok (.aload_n 0, 1) := by decide +kernel
theorem dX6_days_28 : decode cX6_days 28 = .ok (.getfield 27, 3) := by decide +kernel
theorem dX6_days_31 : decode cX6_days 31 = .ok (.sipush 400, 3) := by decide +kernel
theorem dX6_days_34 : decode cX6_days 34 = .ok (.if_icmp .ge 37, 3) := by decide +kernel
theorem dX6_days_37 : decode cX6_days 37 = .ok (.aload_n 0, 1) := by decide +kernel
theorem dX6_days_38 : decode cX6_days 38 = .ok (.dup, 1) := by decide +kernel
theorem dX6_days_39 : decode cX6_days 39 = .ok (.getfield 27, 3) := by decide +kernel
theorem dX6_days_42 : decode cX6_days 42 = .ok (.iconst 1, 1) := by decide +kernel
theorem dX6_days_43 : decode cX6_days 43 = .ok (.iadd, 1) := by decide +kernel
theorem dX6_days_44 : decode cX6_days 44 = .ok (.putfield 27, 3) := by decide +kernel
theorem dX6_days_47 : decode cX6_days 47 = .ok (.iconst 0, 1) := by decide +kernel
theorem dX6_days_48 : decode cX6_days 48 = .ok (.istore_n 3, 1) := by decide +kernel
theorem dX6_days_49 : decode cX6_days 49 = .ok (.iload_n 3, 1) := by decide +kernel
theorem dX6_days_50 : decode cX6_days 50 = .ok (.iconst 4, 1) := by decide +kernel
theorem dX6_days_51 : decode cX6_days 51 = .ok (.if_icmp .ge 14, 3) := by decide +kernel
theorem dX6_days_54 : decode cX6_days 54 = .ok (.aload_n 0, 1) := by decide +kernel
theorem dX6_days_55 : decode cX6_days 55 = .ok (.iload_n 3, 1) := by decide +kernel
theorem dX6_days_56 : decode cX6_days 56 = .ok (.invokevirtual 160, 3) := by decide +kernel
theorem dX6_days_59 : decode cX6_days 59 = .ok (.iinc 3 1, 3) := by decide +kernel
theorem dX6_days_62 : decode cX6_days 62 = .ok (.goto (-13), 3) := by decide +kernel
theorem dX6_days_65 : decode cX6_days 65 = .ok (.iinc 2 1, 3) := by decide +kernel
theorem dX6_days_68 : decode cX6_days 68 = .ok (.goto (-46), 3) := by decide +kernel
theorem dX6_days_71 : decode cX6_days 71 = .ok (.aload_n 0, 1) := by decide +kernel
theorem dX6_days_72 : decode cX6_days 72 = .ok (.getfield 27, 3) := by decide +kernel
theorem dX6_days_75 : decode cX6_days 75 = .ok (.ireturn, 1) := by decide +kernel
theorem dX6_answer_0 : decode cX6_answer 0 = .ok (.aload_n 0, 1) := by decide +kernel
theorem dX6_answer_1 : decode cX6_answer 1 = .ok (.iload_n 1, 1) := by decide +kernel
theorem dX6_answer_2 : decode cX6_answer 2 = .ok (.invokevirtual 163, 3) := by decide +kernel
theorem dX6_answer_5 : decode cX6_answer 5 = .ok (.iload_n 2, 1) := by decide +kernel
theorem dX6_answer_6 : decode cX6_answer 6 = .ok (.invokevirtual 167, 3) := by decide +kernel
theorem dX6_answer_9 : decode cX6_answer 9 = .ok (.astore_n 3, 1) := by decide +kernel
theorem dX6_answer_10 : decode cX6_answer 10 = .ok (.aload_n 3, 1) := by decide +kernel
theorem dX6_answer_11 : decode cX6_answer 11 = .ok (.invokevirtual 171, 3) := by decide +kernel
theorem dX6_answer_14 : decode cX6_answer 14 = .ok (.ifCond .eq 5, 3) := by decide +kernel
theorem dX6_answer_17 : decode cX6_answer 17 = .ok (.iconst 0, 1) := by decide +kernel
theorem dX6_answer_18 : decode cX6_answer 18 = .ok (.ireturn, 1) := by decide +kernel
theorem dX6_answer_19 : decode cX6_answer 19 = .ok (.aload_n 3, 1) := by decide +kernel
theorem dX6_answer_20 : decode cX6_answer 20 = .ok (.aload_n 0, 1) := by decide +kernel
theorem dX6_answer_21 : decode cX6_answer 21 = .ok (.getfield 27, 3) := by decide +kernel
theorem dX6_answer_24 : decode cX6_answer 24 = .ok (.putfield 174, 3) := by decide +kernel
theorem dX6_answer_27 : decode cX6_answer 27 = .ok (.iconst 1, 1) := by decide +kernel
theorem dX6_answer_28 : decode cX6_answer 28 = .ok (.ireturn, 1) := by decide +kernel
theorem dX6_point_0 : decode cX6_point 0 = .ok (.aload_n 0, 1) := by decide +kernel
theorem dX6_point_1 : decode cX6_point 1 = .ok (.iload_n 1, 1) := by decide +kernel
theorem dX6_point_2 : decode cX6_point 2 = .ok (.invokevirtual 163, 3) := by decide +kernel
theorem dX6_point_5 : decode cX6_point 5 = .ok (.astore 4, 2) := by decide +kernel
theorem dX6_point_7 : decode cX6_point 7 = .ok (.aload 4, 2) := by decide +kernel
theorem dX6_point_9 : decode cX6_point 9 = .ok (.iload_n 2, 1) := by decide +kernel
theorem dX6_point_10 : decode cX6_point 10 = .ok (.invokevirtual 167, 3) := by decide +kernel
theorem dX6_point_13 : decode cX6_point 13 = .ok (.astore 5, 2) := by decide +kernel
theorem dX6_point_15 : decode cX6_point 15 = .ok (.iload_n 3, 1) := by decide +kernel
theorem dX6_point_16 : decode cX6_point 16 = .ok (.tableswitch 91 0 4 #[36, 57, 63, 69, 84], 36) := by decide +kernel
theorem dX6_point_52 : decode cX6_point 52 = .ok (.aload 5, 2) := by decide +kernel
theorem dX6_point_54 : decode cX6_point 54 = .ok (.getfield 177, 3) := by decide +kernel
theorem dX6_point_57 : decode cX6_point 57 = .ok (.ifnonnull 7, 3) := by decide +kernel
theorem dX6_point_60 : decode cX6_point 60 = .ok (.iconst (-1), 1) := by decide +kernel
theorem dX6_point_61 : decode cX6_point 61 = .ok (.goto 11, 3) := by decide +kernel
theorem dX6_point_64 : decode cX6_point 64 = .ok (.aload 5, 2) := by decide +kernel
theorem dX6_point_66 : decode cX6_point 66 = .ok (.getfield 177, 3) := by decide +kernel
theorem dX6_point_69 : decode cX6_point 69 = .ok (.getfield 181, 3) := by decide +kernel
theorem dX6_point_72 : decode cX6_point 72 = .ok (.ireturn, 1) := by decide +kernel
theorem dX6_point_73 : decode cX6_point 73 = .ok (.aload 5, 2) := by decide +kernel
theorem dX6_point_75 : decode cX6_point 75 = .ok (.getfield 184, 3) := by decide +kernel
theorem dX6_point_78 : decode cX6_point 78 = .ok (.ireturn, 1) := by decide +kernel
theorem dX6_point_79 : decode cX6_point 79 = .ok (.aload 5, 2) := by decide +kernel
theorem dX6_point_81 : decode cX6_point 81 = .ok (.getfield 174, 3) := by decide +kernel
theorem dX6_point_84 : decode cX6_point 84 = .ok (.ireturn, 1) := by decide +kernel
theorem dX6_point_85 : decode cX6_point 85 = .ok (.aload_n 0, 1) := by decide +kernel
theorem dX6_point_86 : decode cX6_point 86 = .ok (.aload 4, 2) := by decide +kernel
theorem dX6_point_88 : decode cX6_point 88 = .ok (.getfield 187, 3) := by decide +kernel
theorem dX6_point_91 : decode cX6_point 91 = .ok (.aload 5, 2) := by decide +kernel
theorem dX6_point_93 : decode cX6_point 93 = .ok (.getfield 177, 3) := by decide +kernel
theorem dX6_point_96 : decode cX6_point 96 = .ok (.invokevirtual 190, 3) := by decide +kernel
theorem dX6_point_99 : decode cX6_point 99 = .ok (.ireturn, 1) := by decide +kernel
theorem dX6_point_100 : decode cX6_point 100 = .ok (.aload 5, 2) := by decide +kernel
theorem dX6_point_102 : decode cX6_point 102 = .ok (.getfield 194, 3) := by decide +kernel
theorem dX6_point_105 : decode cX6_point 105 = .ok (.arraylength, 1) := by decide +kernel
theorem dX6_point_106 : decode cX6_point 106 = .ok (.ireturn, 1) := by decide +kernel
theorem dX6_point_107 : decode cX6_point 107 = .ok (.new 198, 3) := by decide +kernel
theorem dX6_point_110 : decode cX6_point 110 = .ok (.dup, 1) := by decide +kernel
theorem dX6_point_111 : decode cX6_point 111 = .ok (.ldc 200, 2) := by decide +kernel
theorem dX6_point_113 : decode cX6_point 113 = .ok (.invokespecial 202, 3) := by decide +kernel
theorem dX6_point_116 : decode cX6_point 116 = .ok (.athrow, 1) := by decide +kernel
theorem dX6_look_0 : decode cX6_look 0 = .ok (.aload_n 0, 1) := by decide +kernel
theorem dX6_look_1 : decode cX6_look 1 = .ok (.iload_n 1, 1) := by decide +kernel
theorem dX6_look_2 : decode cX6_look 2 = .ok (.invokevirtual 163, 3) := by decide +kernel
theorem dX6_look_5 : decode cX6_look 5 = .ok (.astore_n 3, 1) := by decide +kernel
theorem dX6_look_6 : decode cX6_look 6 = .ok (.iload_n 2, 1) := by decide +kernel
theorem dX6_look_7 : decode cX6_look 7 = .ok (.tableswitch 73 0 4 #[33, 38, 43, 51, 64], 33) := by decide +kernel
theorem dX6_look_40 : decode cX6_look 40 = .ok (.aload_n 3, 1) := by decide +kernel
theorem dX6_look_41 : decode cX6_look 41 = .ok (.getfield 187, 3) := by decide +kernel
theorem dX6_look_44 : decode cX6_look 44 = .ok (.ireturn, 1) := by decide +kernel
theorem dX6_look_45 : decode cX6_look 45 = .ok (.aload_n 3, 1) := by decide +kernel
theorem dX6_look_46 : decode cX6_look 46 = .ok (.getfield 148, 3) := by decide +kernel
theorem dX6_look_49 : decode cX6_look 49 = .ok (.ireturn, 1) := by decide +kernel
theorem dX6_look_50 : decode cX6_look 50 = .ok (.aload_n 3, 1) := by decide +kernel
theorem dX6_look_51 : decode cX6_look 51 = .ok (.getfield 155, 3) := by decide +kernel
theorem dX6_look_54 : decode cX6_look 54 = .ok (.invokevirtual 92, 3) := by decide +kernel
theorem dX6_look_57 : decode cX6_look 57 = .ok (.ireturn, 1) := by decide +kernel
theorem dX6_look_58 : decode cX6_look 58 = .ok (.aload_n 3, 1) := by decide +kernel
theorem dX6_look_59 : decode cX6_look 59 = .ok (.invokevirtual 203, 3) := by decide +kernel
theorem dX6_look_62 : decode cX6_look 62 = .ok (.ifCond .eq 7, 3) := by decide +kernel
theorem dX6_look_65 : decode cX6_look 65 = .ok (.iconst 1, 1) := by decide +kernel
theorem dX6_look_66 : decode cX6_look 66 = .ok (.goto 4, 3) := by decide +kernel
theorem dX6_look_69 : decode cX6_look 69 = .ok (.iconst 0, 1) := by decide +kernel
theorem dX6_look_70 : decode cX6_look 70 = .ok (.ireturn, 1) := by decide +kernel
theorem dX6_look_71 : decode cX6_look 71 = .ok (.aload_n 0, 1) := by decide +kernel
theorem dX6_look_72 : decode cX6_look 72 = .ok (.aload_n 3, 1) := by decide +kernel
theorem dX6_look_73 : decode cX6_look 73 = .ok (.invokevirtual 206, 3) := by decide +kernel
theorem dX6_look_76 : decode cX6_look 76 = .ok (.invokevirtual 209, 3) := by decide +kernel
theorem dX6_look_79 : decode cX6_look 79 = .ok (.ireturn, 1) := by decide +kernel
theorem dX6_look_80 : decode cX6_look 80 = .ok (.new 198, 3) := by decide +kernel
theorem dX6_look_83 : decode cX6_look 83 = .ok (.dup, 1) := by decide +kernel
theorem dX6_look_84 : decode cX6_look 84 = .ok (.ldc 213, 2) := by decide +kernel
theorem dX6_look_86 : decode cX6_look 86 = .ok (.invokespecial 202, 3) := by decide +kernel
theorem dX6_look_89 : decode cX6_look 89 = .ok (.athrow, 1) := by decide +kernel
theorem dX6_late_0 : decode cX6_late 0 = .ok (.iload_n 1, 1) := by decide +kernel
theorem dX6_late_1 : decode cX6_late 1 = .ok (.invokestatic 78, 3) := by decide +kernel
theorem dX6_late_4 : decode cX6_late 4 = .ok (.aload_n 0, 1) := by decide +kernel
theorem dX6_late_5 : decode cX6_late 5 = .ok (.iload_n 1, 1) := by decide +kernel
theorem dX6_late_6 : decode cX6_late 6 = .ok (.invokevirtual 215, 3) := by decide +kernel
theorem dX6_late_9 : decode cX6_late 9 = .ok (.istore_n 2, 1) := by decide +kernel
theorem dX6_late_10 : decode cX6_late 10 = .ok (.iconst 0, 1) := by decide +kernel
theorem dX6_late_11 : decode cX6_late 11 = .ok (.istore_n 3, 1) := by decide +kernel
theorem dX6_late_12 : decode cX6_late 12 = .ok (.iconst 1, 1) := by decide +kernel
theorem dX6_late_13 : decode cX6_late 13 = .ok (.istore 4, 2) := by decide +kernel
theorem dX6_late_15 : decode cX6_late 15 = .ok (.iload 4, 2) := by decide +kernel
theorem dX6_late_17 : decode cX6_late 17 = .ok (.aload_n 0, 1) := by decide +kernel
theorem dX6_late_18 : decode cX6_late 18 = .ok (.getfield 53, 3) := by decide +kernel
theorem dX6_late_21 : decode cX6_late 21 = .ok (.arraylength, 1) := by decide +kernel
theorem dX6_late_22 : decode cX6_late 22 = .ok (.if_icmp .ge 31, 3) := by decide +kernel
theorem dX6_late_25 : decode cX6_late 25 = .ok (.iload_n 3, 1) := by decide +kernel
theorem dX6_late_26 : decode cX6_late 26 = .ok (.aload_n 0, 1) := by decide +kernel
theorem dX6_late_27 : decode cX6_late 27 = .ok (.getfield 53, 3) := by decide +kernel
theorem dX6_late_30 : decode cX6_late 30 = .ok (.iload 4, 2) := by decide +kernel
theorem dX6_late_32 : decode cX6_late 32 = .ok (.iaload, 1) := by decide +kernel
theorem dX6_late_33 : decode cX6_late 33 = .ok (.iadd, 1) := by decide +kernel
theorem dX6_late_34 : decode cX6_late 34 = .ok (.aload_n 0, 1) := by decide +kernel
theorem dX6_late_35 : decode cX6_late 35 = .ok (.getfield 40, 3) := by decide +kernel
theorem dX6_late_38 : decode cX6_late 38 = .ok (.iload_n 1, 1) := by decide +kernel
theorem dX6_late_39 : decode cX6_late 39 = .ok (.iaload, 1) := by decide +kernel
theorem dX6_late_40 : decode cX6_late 40 = .ok (.iload 4, 2) := by decide +kernel
theorem dX6_late_42 : decode cX6_late 42 = .ok (.imul, 1) := by decide +kernel
theorem dX6_late_43 : decode cX6_late 43 = .ok (.invokestatic 218, 3) := by decide +kernel
theorem dX6_late_46 : decode cX6_late 46 = .ok (.istore_n 3, 1) := by decide +kernel
theorem dX6_late_47 : decode cX6_late 47 = .ok (.iinc 4 1, 3) := by decide +kernel
theorem dX6_late_50 : decode cX6_late 50 = .ok (.goto (-35), 3) := by decide +kernel
theorem dX6_late_53 : decode cX6_late 53 = .ok (.iload_n 2, 1) := by decide +kernel
theorem dX6_late_54 : decode cX6_late 54 = .ok (.iload_n 3, 1) := by decide +kernel
theorem dX6_late_55 : decode cX6_late 55 = .ok (.isub, 1) := by decide +kernel
theorem dX6_late_56 : decode cX6_late 56 = .ok (.ireturn, 1) := by decide +kernel
theorem dX6_waits_0 : decode cX6_waits 0 = .ok (.iload_n 1, 1) := by decide +kernel
theorem dX6_waits_1 : decode cX6_waits 1 = .ok (.invokestatic 78, 3) := by decide +kernel
theorem dX6_waits_4 : decode cX6_waits 4 = .ok (.iconst 0, 1) := by decide +kernel
theorem dX6_waits_5 : decode cX6_waits 5 = .ok (.istore_n 2, 1) := by decide +kernel
theorem dX6_waits_6 : decode cX6_waits 6 = .ok (.iconst 0, 1) := by decide +kernel
theorem dX6_waits_7 : decode cX6_waits 7 = .ok (.istore_n 3, 1) := by decide +kernel
theorem dX6_waits_8 : decode cX6_waits 8 = .ok (.iload_n 3, 1) := by decide +kernel
theorem dX6_waits_9 : decode cX6_waits 9 = .ok (.aload_n 0, 1) := by decide +kernel
theorem dX6_waits_10 : decode cX6_waits 10 = .ok (.getfield 37, 3) := by decide +kernel
theorem dX6_waits_13 : decode cX6_waits 13 = .ok (.invokevirtual 92, 3) := by decide +kernel
theorem dX6_waits_16 : decode cX6_waits 16 = .ok (.if_icmp .ge 64, 3) := by decide +kernel
theorem dX6_waits_19 : decode cX6_waits 19 = .ok (.aload_n 0, 1) := by decide +kernel
theorem dX6_waits_20 : decode cX6_waits 20 = .ok (.getfield 37, 3) := by decide +kernel
theorem dX6_waits_23 : decode cX6_waits 23 = .ok (.iload_n 3, 1) := by decide +kernel
theorem dX6_waits_24 : decode cX6_waits 24 = .ok (.invokevirtual 224, 3) := by decide +kernel
theorem dX6_waits_27 : decode cX6_waits 27 = .ok (.checkcast 120, 3) := by decide +kernel
theorem dX6_waits_30 : decode cX6_waits 30 = .ok (.getfield 155, 3) := by decide +kernel
theorem dX6_waits_33 : decode cX6_waits 33 = .ok (.astore 4, 2) := by decide +kernel
theorem dX6_waits_35 : decode cX6_waits 35 = .ok (.iconst 0, 1) := by decide +kernel
theorem dX6_waits_36 : decode cX6_waits 36 = .ok (.istore 5, 2) := by decide +kernel
theorem dX6_waits_38 : decode cX6_waits 38 = .ok (.iload 5, 2) := by decide +kernel
theorem dX6_waits_40 : decode cX6_waits 40 = .ok (.aload 4, 2) := by decide +kernel
theorem dX6_waits_42 : decode cX6_waits 42 = .ok (.invokevirtual 92, 3) := by decide +kernel
theorem dX6_waits_45 : decode cX6_waits 45 = .ok (.if_icmp .ge 29, 3) := by decide +kernel
theorem dX6_waits_48 : decode cX6_waits 48 = .ok (.aload 4, 2) := by decide +kernel
theorem dX6_waits_50 : decode cX6_waits 50 = .ok (.iload 5, 2) := by decide +kernel
theorem dX6_waits_52 : decode cX6_waits 52 = .ok (.invokevirtual 224, 3) := by decide +kernel
theorem dX6_waits_55 : decode cX6_waits 55 = .ok (.checkcast 135, 3) := by decide +kernel
theorem dX6_waits_58 : decode cX6_waits 58 = .ok (.iload_n 1, 1) := by decide +kernel
theorem dX6_waits_59 : decode cX6_waits 59 = .ok (.invokevirtual 228, 3) := by decide +kernel
theorem dX6_waits_62 : decode cX6_waits 62 = .ok (.ifCond .eq 6, 3) := by decide +kernel
theorem dX6_waits_65 : decode cX6_waits 65 = .ok (.iinc 2 1, 3) := by decide +kernel
theorem dX6_waits_68 : decode cX6_waits 68 = .ok (.iinc 5 1, 3) := by decide +kernel
theorem dX6_waits_71 : decode cX6_waits 71 = .ok (.goto (-33), 3) := by decide +kernel
theorem dX6_waits_74 : decode cX6_waits 74 = .ok (.iinc 3 1, 3) := by decide +kernel
theorem dX6_waits_77 : decode cX6_waits 77 = .ok (.goto (-69), 3) := by decide +kernel
theorem dX6_waits_80 : decode cX6_waits 80 = .ok (.iload_n 2, 1) := by decide +kernel
theorem dX6_waits_81 : decode cX6_waits 81 = .ok (.ireturn, 1) := by decide +kernel
theorem dX6_template_0 : decode cX6_template 0 = .ok (.iconst 1, 1) := by decide +kernel
theorem dX6_template_1 : decode cX6_template 1 = .ok (.aload_n 0, 1) := by decide +kernel
theorem dX6_template_2 : decode cX6_template 2 = .ok (.getfield 33, 3) := by decide +kernel
theorem dX6_template_5 : decode cX6_template 5 = .ok (.invokevirtual 92, 3) := by decide +kernel
theorem dX6_template_8 : decode cX6_template 8 = .ok (.ishl, 1) := by decide +kernel
theorem dX6_template_9 : decode cX6_template 9 = .ok (.iconst 1, 1) := by decide +kernel
theorem dX6_template_10 : decode cX6_template 10 = .ok (.isub, 1) := by decide +kernel
theorem dX6_template_11 : decode cX6_template 11 = .ok (.istore_n 2, 1) := by decide +kernel
theorem dX6_template_12 : decode cX6_template 12 = .ok (.iload_n 1, 1) := by decide +kernel
theorem dX6_template_13 : decode cX6_template 13 = .ok (.ifCond .eq 11, 3) := by decide +kernel
theorem dX6_template_16 : decode cX6_template 16 = .ok (.iload_n 1, 1) := by decide +kernel
theorem dX6_template_17 : decode cX6_template 17 = .ok (.iload_n 2, 1) := by decide +kernel
theorem dX6_template_18 : decode cX6_template 18 = .ok (.iconst (-1), 1) := by decide +kernel
theorem dX6_template_19 : decode cX6_template 19 = .ok (.ixor, 1) := by decide +kernel
theorem dX6_template_20 : decode cX6_template 20 = .ok (.iand, 1) := by decide +kernel
theorem dX6_template_21 : decode cX6_template 21 = .ok (.ifCond .eq 13, 3) := by decide +kernel
theorem dX6_template_24 : decode cX6_template 24 = .ok (.new 81, 3) := by decide +kernel
theorem dX6_template_27 : decode cX6_template 27 = .ok (.dup, 1) := by decide +kernel
theorem dX6_template_28 : decode cX6_template 28 = .ok (.ldc 231, 2) := by decide +kernel
theorem dX6_template_30 : decode cX6_template 30 = .ok (.invokespecial 85, 3) := by decide +kernel
theorem dX6_template_33 : decode cX6_template 33 = .ok (.athrow, 1) := by decide +kernel
theorem dX6_template_34 : decode cX6_template 34 = .ok (.aload_n 0, 1) := by decide +kernel
theorem dX6_template_35 : decode cX6_template 35 = .ok (.getfield 47, 3) := by decide +kernel
theorem dX6_template_38 : decode cX6_template 38 = .ok (.aload_n 0, 1) := by decide +kernel
theorem dX6_template_39 : decode cX6_template 39 = .ok (.getfield 44, 3) := by decide +kernel
theorem dX6_template_42 : decode cX6_template 42 = .ok (.arraylength, 1) := by decide +kernel
theorem dX6_template_43 : decode cX6_template 43 = .ok (.if_icmp .lt 5, 3) := by decide +kernel
theorem dX6_template_46 : decode cX6_template 46 = .ok (.iconst (-1), 1) := by decide +kernel
theorem dX6_template_47 : decode cX6_template 47 = .ok (.ireturn, 1) := by decide +kernel
theorem dX6_template_48 : decode cX6_template 48 = .ok (.aload_n 0, 1) := by decide +kernel
theorem dX6_template_49 : decode cX6_template 49 = .ok (.getfield 44, 3) := by decide +kernel
theorem dX6_template_52 : decode cX6_template 52 = .ok (.aload_n 0, 1) := by decide +kernel
theorem dX6_template_53 : decode cX6_template 53 = .ok (.getfield 47, 3) := by decide +kernel
theorem dX6_template_56 : decode cX6_template 56 = .ok (.iload_n 1, 1) := by decide +kernel
theorem dX6_template_57 : decode cX6_template 57 = .ok (.iastore, 1) := by decide +kernel
theorem dX6_template_58 : decode cX6_template 58 = .ok (.aload_n 0, 1) := by decide +kernel
theorem dX6_template_59 : decode cX6_template 59 = .ok (.dup, 1) := by decide +kernel
theorem dX6_template_60 : decode cX6_template 60 = .ok (.getfield 47, 3) := by decide +kernel
theorem dX6_template_63 : decode cX6_template 63 = .ok (.iconst 1, 1) := by decide +kernel
theorem dX6_template_64 : decode cX6_template 64 = .ok (.iadd, 1) := by decide +kernel
theorem dX6_template_65 : decode cX6_template 65 = .ok (.putfield 47, 3) := by decide +kernel
theorem dX6_template_68 : decode cX6_template 68 = .ok (.aload_n 0, 1) := by decide +kernel
theorem dX6_template_69 : decode cX6_template 69 = .ok (.getfield 47, 3) := by decide +kernel
theorem dX6_template_72 : decode cX6_template 72 = .ok (.iconst 1, 1) := by decide +kernel
theorem dX6_template_73 : decode cX6_template 73 = .ok (.isub, 1) := by decide +kernel
theorem dX6_template_74 : decode cX6_template 74 = .ok (.ireturn, 1) := by decide +kernel
theorem dX6_counts_0 : decode cX6_counts 0 = .ok (.aload_n 0, 1) := by decide +kernel
theorem dX6_counts_1 : decode cX6_counts 1 = .ok (.iload_n 1, 1) := by decide +kernel
theorem dX6_counts_2 : decode cX6_counts 2 = .ok (.invokevirtual 74, 3) := by decide +kernel
theorem dX6_counts_5 : decode cX6_counts 5 = .ok (.astore_n 3, 1) := by decide +kernel
theorem dX6_counts_6 : decode cX6_counts 6 = .ok (.iload_n 2, 1) := by decide +kernel
theorem dX6_counts_7 : decode cX6_counts 7 = .ok (.ifCond .lt 11, 3) := by decide +kernel
theorem dX6_counts_10 : decode cX6_counts 10 = .ok (.iload_n 2, 1) := by decide +kernel
theorem dX6_counts_11 : decode cX6_counts 11 = .ok (.aload_n 0, 1) := by decide +kernel
theorem dX6_counts_12 : decode cX6_counts 12 = .ok (.getfield 27, 3) := by decide +kernel
theorem dX6_counts_15 : decode cX6_counts 15 = .ok (.if_icmp .le 5, 3) := by decide +kernel
theorem dX6_counts_18 : decode cX6_counts 18 = .ok (.iconst 0, 1) := by decide +kernel
theorem dX6_counts_19 : decode cX6_counts 19 = .ok (.ireturn, 1) := by decide +kernel
theorem dX6_counts_20 : decode cX6_counts 20 = .ok (.aload_n 0, 1) := by decide +kernel
theorem dX6_counts_21 : decode cX6_counts 21 = .ok (.aload_n 3, 1) := by decide +kernel
theorem dX6_counts_22 : decode cX6_counts 22 = .ok (.invokevirtual 233, 3) := by decide +kernel
theorem dX6_counts_25 : decode cX6_counts 25 = .ok (.iload_n 2, 1) := by decide +kernel
theorem dX6_counts_26 : decode cX6_counts 26 = .ok (.aload_n 0, 1) := by decide +kernel
theorem dX6_counts_27 : decode cX6_counts 27 = .ok (.getfield 50, 3) := by decide +kernel
theorem dX6_counts_30 : decode cX6_counts 30 = .ok (.arraylength, 1) := by decide +kernel
theorem dX6_counts_31 : decode cX6_counts 31 = .ok (.if_icmp .ge 12, 3) := by decide +kernel
theorem dX6_counts_34 : decode cX6_counts 34 = .ok (.aload_n 0, 1) := by decide +kernel
theorem dX6_counts_35 : decode cX6_counts 35 = .ok (.getfield 50, 3) := by decide +kernel
theorem dX6_counts_38 : decode cX6_counts 38 = .ok (.iload_n 2, 1) := by decide +kernel
theorem dX6_counts_39 : decode cX6_counts 39 = .ok (.iaload, 1) := by decide +kernel
theorem dX6_counts_40 : decode cX6_counts 40 = .ok (.goto 4, 3) := by decide +kernel
theorem dX6_counts_43 : decode cX6_counts 43 = .ok (.iconst 0, 1) := by decide +kernel
theorem dX6_counts_44 : decode cX6_counts 44 = .ok (.ireturn, 1) := by decide +kernel
theorem dX6_wave_0 : decode cX6_wave 0 = .ok (.aload_n 0, 1) := by decide +kernel
theorem dX6_wave_1 : decode cX6_wave 1 = .ok (.aload_n 0, 1) := by decide +kernel
theorem dX6_wave_2 : decode cX6_wave 2 = .ok (.iload_n 1, 1) := by decide +kernel
theorem dX6_wave_3 : decode cX6_wave 3 = .ok (.invokevirtual 74, 3) := by decide +kernel
theorem dX6_wave_6 : decode cX6_wave 6 = .ok (.invokevirtual 233, 3) := by decide +kernel
theorem dX6_wave_9 : decode cX6_wave 9 = .ok (.iconst 0, 1) := by decide +kernel
theorem dX6_wave_10 : decode cX6_wave 10 = .ok (.istore_n 2, 1) := by decide +kernel
theorem dX6_wave_11 : decode cX6_wave 11 = .ok (.iload_n 2, 1) := by decide +kernel
theorem dX6_wave_12 : decode cX6_wave 12 = .ok (.aload_n 0, 1) := by decide +kernel
theorem dX6_wave_13 : decode cX6_wave 13 = .ok (.getfield 27, 3) := by decide +kernel
theorem dX6_wave_16 : decode cX6_wave 16 = .ok (.if_icmp .gt 28, 3) := by decide +kernel
theorem dX6_wave_19 : decode cX6_wave 19 = .ok (.iload_n 2, 1) := by decide +kernel
theorem dX6_wave_20 : decode cX6_wave 20 = .ok (.aload_n 0, 1) := by decide +kernel
theorem dX6_wave_21 : decode cX6_wave 21 = .ok (.getfield 50, 3) := by decide +kernel
theorem dX6_wave_24 : decode cX6_wave 24 = .ok (.arraylength, 1) := by decide +kernel
theorem dX6_wave_25 : decode cX6_wave 25 = .ok (.if_icmp .ge 19, 3) := by decide +kernel
theorem dX6_wave_28 : decode cX6_wave 28 = .ok (.aload_n 0, 1) := by decide +kernel
theorem dX6_wave_29 : decode cX6_wave 29 = .ok (.iload_n 2, 1) := by decide +kernel
theorem dX6_wave_30 : decode cX6_wave 30 = .ok (.invokevirtual 237, 3) := by decide +kernel
theorem dX6_wave_33 : decode cX6_wave 33 = .ok (.ifCond .eq 5, 3) := by decide +kernel
theorem dX6_wave_36 : decode cX6_wave 36 = .ok (.iload_n 2, 1) := by decide +kernel
theorem dX6_wave_37 : decode cX6_wave 37 = .ok (.ireturn, 1) := by decide +kernel
theorem dX6_wave_38 : decode cX6_wave 38 = .ok (.iinc 2 1, 3) := by decide +kernel
theorem dX6_wave_41 : decode cX6_wave 41 = .ok (.goto (-30), 3) := by decide +kernel
theorem dX6_wave_44 : decode cX6_wave 44 = .ok (.iconst (-1), 1) := by decide +kernel
theorem dX6_wave_45 : decode cX6_wave 45 = .ok (.ireturn, 1) := by decide +kernel
theorem dX6_count_0 : decode cX6_count 0 = .ok (.iload_n 1, 1) := by decide +kernel
theorem dX6_count_1 : decode cX6_count 1 = .ok (.tableswitch 88 0 8 #[51, 56, 64, 72, 77, 77, 77, 77, 83], 51) := by decide +kernel
theorem dX6_count_52 : decode cX6_count 52 = .ok (.aload_n 0, 1) := by decide +kernel
theorem dX6_count_53 : decode cX6_count 53 = .ok (.getfield 27, 3) := by decide +kernel
theorem dX6_count_56 : decode cX6_count 56 = .ok (.ireturn, 1) := by decide +kernel
theorem dX6_count_57 : decode cX6_count 57 = .ok (.aload_n 0, 1) := by decide +kernel
theorem dX6_count_58 : decode cX6_count 58 = .ok (.getfield 33, 3) := by decide +kernel
theorem dX6_count_61 : decode cX6_count 61 = .ok (.invokevirtual 92, 3) := by decide +kernel
theorem dX6_count_64 : decode cX6_count 64 = .ok (.ireturn, 1) := by decide +kernel
theorem dX6_count_65 : decode cX6_count 65 = .ok (.aload_n 0, 1) := by decide +kernel
theorem dX6_count_66 : decode cX6_count 66 = .ok (.getfield 37, 3) := by decide +kernel
theorem dX6_count_69 : decode cX6_count 69 = .ok (.invokevirtual 92, 3) := by decide +kernel
theorem dX6_count_72 : decode cX6_count 72 = .ok (.ireturn, 1) := by decide +kernel
theorem dX6_count_73 : decode cX6_count 73 = .ok (.aload_n 0, 1) := by decide +kernel
theorem dX6_count_74 : decode cX6_count 74 = .ok (.invokevirtual 240, 3) := by decide +kernel
theorem dX6_count_77 : decode cX6_count 77 = .ok (.ireturn, 1) := by decide +kernel
theorem dX6_count_78 : decode cX6_count 78 = .ok (.aload_n 0, 1) := by decide +kernel
theorem dX6_count_79 : decode cX6_count 79 = .ok (.iload_n 1, 1) := by decide +kernel
theorem dX6_count_80 : decode cX6_count 80 = .ok (.invokevirtual 243, 3) := by decide +kernel
theorem dX6_count_83 : decode cX6_count 83 = .ok (.ireturn, 1) := by decide +kernel
theorem dX6_count_84 : decode cX6_count 84 = .ok (.aload_n 0, 1) := by decide +kernel
theorem dX6_count_85 : decode cX6_count 85 = .ok (.getfield 47, 3) := by decide +kernel
theorem dX6_count_88 : decode cX6_count 88 = .ok (.ireturn, 1) := by decide +kernel
theorem dX6_count_89 : decode cX6_count 89 = .ok (.iconst (-1), 1) := by decide +kernel
theorem dX6_count_90 : decode cX6_count 90 = .ok (.ireturn, 1) := by decide +kernel
theorem dX6_causeAt_0 : decode cX6_causeAt 0 = .ok (.iload_n 1, 1) := by decide +kernel
theorem dX6_causeAt_1 : decode cX6_causeAt 1 = .ok (.ifCond .lt 14, 3) := by decide +kernel
theorem dX6_causeAt_4 : decode cX6_causeAt 4 = .ok (.iload_n 1, 1) := by decide +kernel
theorem dX6_causeAt_5 : decode cX6_causeAt 5 = .ok (.aload_n 0, 1) := by decide +kernel
theorem dX6_causeAt_6 : decode cX6_causeAt 6 = .ok (.getfield 33, 3) := by decide +kernel
theorem dX6_causeAt_9 : decode cX6_causeAt 9 = .ok (.invokevirtual 92, 3) := by decide +kernel
theorem dX6_causeAt_12 : decode cX6_causeAt 12 = .ok (.if_icmp .lt 13, 3) := by decide +kernel
theorem dX6_causeAt_15 : decode cX6_causeAt 15 = .ok (.new 246, 3) := by decide +kernel
theorem dX6_causeAt_18 : decode cX6_causeAt 18 = .ok (.dup, 1) := by decide +kernel
theorem dX6_causeAt_19 : decode cX6_causeAt 19 = .ok (.ldc 248, 2) := by decide +kernel
theorem dX6_causeAt_21 : decode cX6_causeAt 21 = .ok (.invokespecial 250, 3) := by decide +kernel
theorem dX6_causeAt_24 : decode cX6_causeAt 24 = .ok (.athrow, 1) := by decide +kernel
theorem dX6_causeAt_25 : decode cX6_causeAt 25 = .ok (.aload_n 0, 1) := by decide +kernel
theorem dX6_causeAt_26 : decode cX6_causeAt 26 = .ok (.getfield 33, 3) := by decide +kernel
theorem dX6_causeAt_29 : decode cX6_causeAt 29 = .ok (.iload_n 1, 1) := by decide +kernel
theorem dX6_causeAt_30 : decode cX6_causeAt 30 = .ok (.invokevirtual 224, 3) := by decide +kernel
theorem dX6_causeAt_33 : decode cX6_causeAt 33 = .ok (.checkcast 101, 3) := by decide +kernel
theorem dX6_causeAt_36 : decode cX6_causeAt 36 = .ok (.areturn, 1) := by decide +kernel
theorem dX6_letterAt_0 : decode cX6_letterAt 0 = .ok (.iload_n 1, 1) := by decide +kernel
theorem dX6_letterAt_1 : decode cX6_letterAt 1 = .ok (.ifCond .lt 14, 3) := by decide +kernel
theorem dX6_letterAt_4 : decode cX6_letterAt 4 = .ok (.iload_n 1, 1) := by decide +kernel
theorem dX6_letterAt_5 : decode cX6_letterAt 5 = .ok (.aload_n 0, 1) := by decide +kernel
theorem dX6_letterAt_6 : decode cX6_letterAt 6 = .ok (.getfield 37, 3) := by decide +kernel
theorem dX6_letterAt_9 : decode cX6_letterAt 9 = .ok (.invokevirtual 92, 3) := by decide +kernel
theorem dX6_letterAt_12 : decode cX6_letterAt 12 = .ok (.if_icmp .lt 13, 3) := by decide +kernel
theorem dX6_letterAt_15 : decode cX6_letterAt 15 = .ok (.new 246, 3) := by decide +kernel
theorem dX6_letterAt_18 : decode cX6_letterAt 18 = .ok (.dup, 1) := by decide +kernel
theorem dX6_letterAt_19 : decode cX6_letterAt 19 = .ok (.ldc 251, 2) := by decide +kernel
theorem dX6_letterAt_21 : decode cX6_letterAt 21 = .ok (.invokespecial 250, 3) := by decide +kernel
theorem dX6_letterAt_24 : decode cX6_letterAt 24 = .ok (.athrow, 1) := by decide +kernel
theorem dX6_letterAt_25 : decode cX6_letterAt 25 = .ok (.aload_n 0, 1) := by decide +kernel
theorem dX6_letterAt_26 : decode cX6_letterAt 26 = .ok (.getfield 37, 3) := by decide +kernel
theorem dX6_letterAt_29 : decode cX6_letterAt 29 = .ok (.iload_n 1, 1) := by decide +kernel
theorem dX6_letterAt_30 : decode cX6_letterAt 30 = .ok (.invokevirtual 224, 3) := by decide +kernel
theorem dX6_letterAt_33 : decode cX6_letterAt 33 = .ok (.checkcast 120, 3) := by decide +kernel
theorem dX6_letterAt_36 : decode cX6_letterAt 36 = .ok (.areturn, 1) := by decide +kernel
theorem dX6_checkDesk_0 : decode cX6_checkDesk 0 = .ok (.iload_n 0, 1) := by decide +kernel
theorem dX6_checkDesk_1 : decode cX6_checkDesk 1 = .ok (.ifCond .lt 8, 3) := by decide +kernel
theorem dX6_checkDesk_4 : decode cX6_checkDesk 4 = .ok (.iload_n 0, 1) := by decide +kernel
theorem dX6_checkDesk_5 : decode cX6_checkDesk 5 = .ok (.iconst 4, 1) := by decide +kernel
theorem dX6_checkDesk_6 : decode cX6_checkDesk 6 = .ok (.if_icmp .lt 13, 3) := by decide +kernel
theorem dX6_checkDesk_9 : decode cX6_checkDesk 9 = .ok (.new 246, 3) := by decide +kernel
theorem dX6_checkDesk_12 : decode cX6_checkDesk 12 = .ok (.dup, 1) := by decide +kernel
theorem dX6_checkDesk_13 : decode cX6_checkDesk 13 = .ok (.ldc 253, 2) := by decide +kernel
theorem dX6_checkDesk_15 : decode cX6_checkDesk 15 = .ok (.invokespecial 250, 3) := by decide +kernel
theorem dX6_checkDesk_18 : decode cX6_checkDesk 18 = .ok (.athrow, 1) := by decide +kernel
theorem dX6_checkDesk_19 : decode cX6_checkDesk 19 = .ok (.return_, 1) := by decide +kernel
theorem dX6_readPattern_0 : decode cX6_readPattern 0 = .ok (.aload_n 0, 1) := by decide +kernel
theorem dX6_readPattern_1 : decode cX6_readPattern 1 = .ok (.aload_n 0, 1) := by decide +kernel
theorem dX6_readPattern_2 : decode cX6_readPattern 2 = .ok (.getfield 10, 3) := by decide +kernel
theorem dX6_readPattern_5 : decode cX6_readPattern 5 = .ok (.aload_n 0, 1) := by decide +kernel
theorem dX6_readPattern_6 : decode cX6_readPattern 6 = .ok (.getfield 19, 3) := by decide +kernel
theorem dX6_readPattern_9 : decode cX6_readPattern 9 = .ok (.invokestatic 255, 3) := by decide +kernel
theorem dX6_readPattern_12 : decode cX6_readPattern 12 = .ok (.putfield 23, 3) := by decide +kernel
theorem dX6_readPattern_15 : decode cX6_readPattern 15 = .ok (.aload_n 0, 1) := by decide +kernel
theorem dX6_readPattern_16 : decode cX6_readPattern 16 = .ok (.getfield 23, 3) := by decide +kernel
theorem dX6_readPattern_19 : decode cX6_readPattern 19 = .ok (.iconst (-1), 1) := by decide +kernel
theorem dX6_readPattern_20 : decode cX6_readPattern 20 = .ok (.if_icmp .eq 13, 3) := by decide +kernel
theorem dX6_readPattern_23 : decode cX6_readPattern 23 = .ok (.new 81, 3) := by decide +kernel
theorem dX6_readPattern_26 : decode cX6_readPattern 26 = .ok (.dup, 1) := by decide +kernel
theorem dX6_readPattern_27 : decode cX6_readPattern 27 = .ok (.ldc 125, 2) := by decide +kernel
theorem dX6_readPattern_29 : decode cX6_readPattern 29 = .ok (.invokespecial 85, 3) := by decide +kernel
theorem dX6_readPattern_32 : decode cX6_readPattern 32 = .ok (.athrow, 1) := by decide +kernel
theorem dX6_readPattern_33 : decode cX6_readPattern 33 = .ok (.new 256, 3) := by decide +kernel
theorem dX6_readPattern_36 : decode cX6_readPattern 36 = .ok (.dup, 1) := by decide +kernel
theorem dX6_readPattern_37 : decode cX6_readPattern 37 = .ok (.aload_n 0, 1) := by decide +kernel
theorem dX6_readPattern_38 : decode cX6_readPattern 38 = .ok (.getfield 19, 3) := by decide +kernel
theorem dX6_readPattern_41 : decode cX6_readPattern 41 = .ok (.invokespecial 258, 3) := by decide +kernel
theorem dX6_readPattern_44 : decode cX6_readPattern 44 = .ok (.areturn, 1) := by decide +kernel
theorem dX6_causeOf_0 : decode cX6_causeOf 0 = .ok (.aconst_null, 1) := by decide +kernel
theorem dX6_causeOf_1 : decode cX6_causeOf 1 = .ok (.astore_n 2, 1) := by decide +kernel
theorem dX6_causeOf_2 : decode cX6_causeOf 2 = .ok (.iconst 0, 1) := by decide +kernel
theorem dX6_causeOf_3 : decode cX6_causeOf 3 = .ok (.istore_n 3, 1) := by decide +kernel
theorem dX6_causeOf_4 : decode cX6_causeOf 4 = .ok (.iload_n 3, 1) := by decide +kernel
theorem dX6_causeOf_5 : decode cX6_causeOf 5 = .ok (.aload_n 0, 1) := by decide +kernel
theorem dX6_causeOf_6 : decode cX6_causeOf 6 = .ok (.getfield 33, 3) := by decide +kernel
theorem dX6_causeOf_9 : decode cX6_causeOf 9 = .ok (.invokevirtual 92, 3) := by decide +kernel
theorem dX6_causeOf_12 : decode cX6_causeOf 12 = .ok (.if_icmp .ge 46, 3) := by decide +kernel
theorem dX6_causeOf_15 : decode cX6_causeOf 15 = .ok (.aload_n 0, 1) := by decide +kernel
theorem dX6_causeOf_16 : decode cX6_causeOf 16 = .ok (.getfield 33, 3) := by decide +kernel
theorem dX6_causeOf_19 : decode cX6_causeOf 19 = .ok (.iload_n 3, 1) := by decide +kernel
theorem dX6_causeOf_20 : decode cX6_causeOf 20 = .ok (.invokevirtual 224, 3) := by decide +kernel
theorem dX6_causeOf_23 : decode cX6_causeOf 23 = .ok (.checkcast 101, 3) := by decide +kernel
theorem dX6_causeOf_26 : decode cX6_causeOf 26 = .ok (.astore 4, 2) := by decide +kernel
theorem dX6_causeOf_28 : decode cX6_causeOf 28 = .ok (.aload 4, 2) := by decide +kernel
theorem dX6_causeOf_30 : decode cX6_causeOf 30 = .ok (.getfield 261, 3) := by decide +kernel
theorem dX6_causeOf_33 : decode cX6_causeOf 33 = .ok (.aload_n 2, 1) := by decide +kernel
theorem dX6_causeOf_34 : decode cX6_causeOf 34 = .ok (.if_acmp .ne 18, 3) := by decide +kernel
theorem dX6_causeOf_37 : decode cX6_causeOf 37 = .ok (.aload 4, 2) := by decide +kernel
theorem dX6_causeOf_39 : decode cX6_causeOf 39 = .ok (.getfield 110, 3) := by decide +kernel
theorem dX6_causeOf_42 : decode cX6_causeOf 42 = .ok (.aload_n 1, 1) := by decide +kernel
theorem dX6_causeOf_43 : decode cX6_causeOf 43 = .ok (.invokevirtual 264, 3) := by decide +kernel
theorem dX6_causeOf_46 : decode cX6_causeOf 46 = .ok (.ifCond .eq 6, 3) := by decide +kernel
theorem dX6_causeOf_49 : decode cX6_causeOf 49 = .ok (.aload 4, 2) := by decide +kernel
theorem dX6_causeOf_51 : decode cX6_causeOf 51 = .ok (.astore_n 2, 1) := by decide +kernel
theorem dX6_causeOf_52 : decode cX6_causeOf 52 = .ok (.iinc 3 1, 3) := by decide +kernel
theorem dX6_causeOf_55 : decode cX6_causeOf 55 = .ok (.goto (-51), 3) := by decide +kernel
theorem dX6_causeOf_58 : decode cX6_causeOf 58 = .ok (.aload_n 2, 1) := by decide +kernel
theorem dX6_causeOf_59 : decode cX6_causeOf 59 = .ok (.areturn, 1) := by decide +kernel
theorem dX6_sortAnew_0 : decode cX6_sortAnew 0 = .ok (.iconst 0, 1) := by decide +kernel
theorem dX6_sortAnew_1 : decode cX6_sortAnew 1 = .ok (.istore_n 1, 1) := by decide +kernel
theorem dX6_sortAnew_2 : decode cX6_sortAnew 2 = .ok (.iconst 0, 1) := by decide +kernel
theorem dX6_sortAnew_3 : decode cX6_sortAnew 3 = .ok (.istore_n 2, 1) := by decide +kernel
theorem dX6_sortAnew_4 : decode cX6_sortAnew 4 = .ok (.iload_n 2, 1) := by decide +kernel
theorem dX6_sortAnew_5 : decode cX6_sortAnew 5 = .ok (.aload_n 0, 1) := by decide +kernel
theorem dX6_sortAnew_6 : decode cX6_sortAnew 6 = .ok (.getfield 37, 3) := by decide +kernel
theorem dX6_sortAnew_9 : decode cX6_sortAnew 9 = .ok (.invokevirtual 92, 3) := by decide +kernel
theorem dX6_sortAnew_12 : decode cX6_sortAnew 12 = .ok (.if_icmp .ge 85, 3) := by decide +kernel
theorem dX6_sortAnew_15 : decode cX6_sortAnew 15 = .ok (.aload_n 0, 1) := by decide +kernel
theorem dX6_sortAnew_16 : decode cX6_sortAnew 16 = .ok (.getfield 37, 3) := by decide +kernel
theorem dX6_sortAnew_19 : decode cX6_sortAnew 19 = .ok (.iload_n 2, 1) := by decide +kernel
theorem dX6_sortAnew_20 : decode cX6_sortAnew 20 = .ok (.invokevirtual 224, 3) := by decide +kernel
theorem dX6_sortAnew_23 : decode cX6_sortAnew 23 = .ok (.checkcast 120, 3) := by decide +kernel
theorem dX6_sortAnew_26 : decode cX6_sortAnew 26 = .ok (.astore_n 3, 1) := by decide +kernel
theorem dX6_sortAnew_27 : decode cX6_sortAnew 27 = .ok (.iconst 0, 1) := by decide +kernel
theorem dX6_sortAnew_28 : decode cX6_sortAnew 28 = .ok (.istore 4, 2) := by decide +kernel
theorem dX6_sortAnew_30 : decode cX6_sortAnew 30 = .ok (.iload 4, 2) := by decide +kernel
theorem dX6_sortAnew_32 : decode cX6_sortAnew 32 = .ok (.aload_n 3, 1) := by decide +kernel
theorem dX6_sortAnew_33 : decode cX6_sortAnew 33 = .ok (.getfield 155, 3) := by decide +kernel
theorem dX6_sortAnew_36 : decode cX6_sortAnew 36 = .ok (.invokevirtual 92, 3) := by decide +kernel
theorem dX6_sortAnew_39 : decode cX6_sortAnew 39 = .ok (.if_icmp .ge 52, 3) := by decide +kernel
theorem dX6_sortAnew_42 : decode cX6_sortAnew 42 = .ok (.aload_n 3, 1) := by decide +kernel
theorem dX6_sortAnew_43 : decode cX6_sortAnew 43 = .ok (.getfield 155, 3) := by decide +kernel
theorem dX6_sortAnew_46 : decode cX6_sortAnew 46 = .ok (.iload 4, 2) := by decide +kernel
theorem dX6_sortAnew_48 : decode cX6_sortAnew 48 = .ok (.invokevirtual 224, 3) := by decide +kernel
theorem dX6_sortAnew_51 : decode cX6_sortAnew 51 = .ok (.checkcast 135, 3) := by decide +kernel
theorem dX6_sortAnew_54 : decode cX6_sortAnew 54 = .ok (.astore 5, 2) := by decide +kernel
theorem dX6_sortAnew_56 : decode cX6_sortAnew 56 = .ok (.aload 5, 2) := by decide +kernel
theorem dX6_sortAnew_58 : decode cX6_sortAnew 58 = .ok (.invokevirtual 171, 3) := by decide +kernel
theorem dX6_sortAnew_61 : decode cX6_sortAnew 61 = .ok (.ifCond .ne 24, 3) := by decide +kernel
theorem dX6_sortAnew_64 : decode cX6_sortAnew 64 = .ok (.aload 5, 2) := by decide +kernel
theorem dX6_sortAnew_66 : decode cX6_sortAnew 66 = .ok (.aload_n 0, 1) := by decide +kernel
theorem dX6_sortAnew_67 : decode cX6_sortAnew 67 = .ok (.aload 5, 2) := by decide +kernel
theorem dX6_sortAnew_69 : decode cX6_sortAnew 69 = .ok (.invokevirtual 144, 3) := by decide +kernel
theorem dX6_sortAnew_72 : decode cX6_sortAnew 72 = .ok (.aload_n 3, 1) := by decide +kernel
theorem dX6_sortAnew_73 : decode cX6_sortAnew 73 = .ok (.getfield 148, 3) := by decide +kernel
theorem dX6_sortAnew_76 : decode cX6_sortAnew 76 = .ok (.invokevirtual 151, 3) := by decide +kernel
theorem dX6_sortAnew_79 : decode cX6_sortAnew 79 = .ok (.ifCond .eq 6, 3) := by decide +kernel
theorem dX6_sortAnew_82 : decode cX6_sortAnew 82 = .ok (.iinc 1 1, 3) := by decide +kernel
theorem dX6_sortAnew_85 : decode cX6_sortAnew 85 = .ok (.iinc 4 1, 3) := by decide +kernel
theorem dX6_sortAnew_88 : decode cX6_sortAnew 88 = .ok (.goto (-58), 3) := by decide +kernel
theorem dX6_sortAnew_91 : decode cX6_sortAnew 91 = .ok (.iinc 2 1, 3) := by decide +kernel
theorem dX6_sortAnew_94 : decode cX6_sortAnew 94 = .ok (.goto (-90), 3) := by decide +kernel
theorem dX6_sortAnew_97 : decode cX6_sortAnew 97 = .ok (.iload_n 1, 1) := by decide +kernel
theorem dX6_sortAnew_98 : decode cX6_sortAnew 98 = .ok (.ireturn, 1) := by decide +kernel
theorem dX6_work_0 : decode cX6_work 0 = .ok (.iconst 0, 1) := by decide +kernel
theorem dX6_work_1 : decode cX6_work 1 = .ok (.istore_n 2, 1) := by decide +kernel
theorem dX6_work_2 : decode cX6_work 2 = .ok (.iload_n 2, 1) := by decide +kernel
theorem dX6_work_3 : decode cX6_work 3 = .ok (.aload_n 0, 1) := by decide +kernel
theorem dX6_work_4 : decode cX6_work 4 = .ok (.getfield 40, 3) := by decide +kernel
theorem dX6_work_7 : decode cX6_work 7 = .ok (.iload_n 1, 1) := by decide +kernel
theorem dX6_work_8 : decode cX6_work 8 = .ok (.iaload, 1) := by decide +kernel
theorem dX6_work_9 : decode cX6_work 9 = .ok (.if_icmp .ge 28, 3) := by decide +kernel
theorem dX6_work_12 : decode cX6_work 12 = .ok (.aload_n 0, 1) := by decide +kernel
theorem dX6_work_13 : decode cX6_work 13 = .ok (.iload_n 1, 1) := by decide +kernel
theorem dX6_work_14 : decode cX6_work 14 = .ok (.invokevirtual 268, 3) := by decide +kernel
theorem dX6_work_17 : decode cX6_work 17 = .ok (.astore_n 3, 1) := by decide +kernel
theorem dX6_work_18 : decode cX6_work 18 = .ok (.aload_n 3, 1) := by decide +kernel
theorem dX6_work_19 : decode cX6_work 19 = .ok (.ifnonnull 4, 3) := by decide +kernel
theorem dX6_work_22 : decode cX6_work 22 = .ok (.return_, 1) := by decide +kernel
theorem dX6_work_23 : decode cX6_work 23 = .ok (.aload_n 3, 1) := by decide +kernel
theorem dX6_work_24 : decode cX6_work 24 = .ok (.aload_n 0, 1) := by decide +kernel
theorem dX6_work_25 : decode cX6_work 25 = .ok (.getfield 27, 3) := by decide +kernel
theorem dX6_work_28 : decode cX6_work 28 = .ok (.putfield 174, 3) := by decide +kernel
theorem dX6_work_31 : decode cX6_work 31 = .ok (.iinc 2 1, 3) := by decide +kernel
theorem dX6_work_34 : decode cX6_work 34 = .ok (.goto (-32), 3) := by decide +kernel
theorem dX6_work_37 : decode cX6_work 37 = .ok (.return_, 1) := by decide +kernel
theorem dX6_firstWaiting_0 : decode cX6_firstWaiting 0 = .ok (.aconst_null, 1) := by decide +kernel
theorem dX6_firstWaiting_1 : decode cX6_firstWaiting 1 = .ok (.astore_n 2, 1) := by decide +kernel
theorem dX6_firstWaiting_2 : decode cX6_firstWaiting 2 = .ok (.iconst 0, 1) := by decide +kernel
theorem dX6_firstWaiting_3 : decode cX6_firstWaiting 3 = .ok (.istore_n 3, 1) := by decide +kernel
theorem dX6_firstWaiting_4 : decode cX6_firstWaiting 4 = .ok (.iload_n 3, 1) := by decide +kernel
theorem dX6_firstWaiting_5 : decode cX6_firstWaiting 5 = .ok (.aload_n 0, 1) := by decide +kernel
theorem dX6_firstWaiting_6 : decode cX6_firstWaiting 6 = .ok (.getfield 37, 3) := by decide +kernel
theorem dX6_firstWaiting_9 : decode cX6_firstWaiting 9 = .ok (.invokevirtual 92, 3) := by decide +kernel
theorem dX6_firstWaiting_12 : decode cX6_firstWaiting 12 = .ok (.if_icmp .ge 81, 3) := by decide +kernel
theorem dX6_firstWaiting_15 : decode cX6_firstWaiting 15 = .ok (.aload_n 0, 1) := by decide +kernel
theorem dX6_firstWaiting_16 : decode cX6_firstWaiting 16 = .ok (.getfield 37, 3) := by decide +kernel
theorem dX6_firstWaiting_19 : decode cX6_firstWaiting 19 = .ok (.iload_n 3, 1) := by decide +kernel
theorem dX6_firstWaiting_20 : decode cX6_firstWaiting 20 = .ok (.invokevirtual 224, 3) := by decide +kernel
theorem dX6_firstWaiting_23 : decode cX6_firstWaiting 23 = .ok (.checkcast 120, 3) := by decide +kernel
theorem dX6_firstWaiting_26 : decode cX6_firstWaiting 26 = .ok (.getfield 155, 3) := by decide +kernel
theorem dX6_firstWaiting_29 : decode cX6_firstWaiting 29 = .ok (.astore 4, 2) := by decide +kernel
theorem dX6_firstWaiting_31 : decode cX6_firstWaiting 31 = .ok (.iconst 0, 1) := by decide +kernel
theorem dX6_firstWaiting_32 : decode cX6_firstWaiting 32 = .ok (.istore 5, 2) := by decide +kernel
theorem dX6_firstWaiting_34 : decode cX6_firstWaiting 34 = .ok (.iload 5, 2) := by decide +kernel
theorem dX6_firstWaiting_36 : decode cX6_firstWaiting 36 = .ok (.aload 4, 2) := by decide +kernel
theorem dX6_firstWaiting_38 : decode cX6_firstWaiting 38 = .ok (.invokevirtual 92, 3) := by decide +kernel
theorem dX6_firstWaiting_41 : decode cX6_firstWaiting 41 = .ok (.if_icmp .ge 46, 3) := by decide +kernel
theorem dX6_firstWaiting_44 : decode cX6_firstWaiting 44 = .ok (.aload 4, 2) := by decide +kernel
theorem dX6_firstWaiting_46 : decode cX6_firstWaiting 46 = .ok (.iload 5, 2) := by decide +kernel
theorem dX6_firstWaiting_48 : decode cX6_firstWaiting 48 = .ok (.invokevirtual 224, 3) := by decide +kernel
theorem dX6_firstWaiting_51 : decode cX6_firstWaiting 51 = .ok (.checkcast 135, 3) := by decide +kernel
theorem dX6_firstWaiting_54 : decode cX6_firstWaiting 54 = .ok (.astore 6, 2) := by decide +kernel
theorem dX6_firstWaiting_56 : decode cX6_firstWaiting 56 = .ok (.aload 6, 2) := by decide +kernel
theorem dX6_firstWaiting_58 : decode cX6_firstWaiting 58 = .ok (.iload_n 1, 1) := by decide +kernel
theorem dX6_firstWaiting_59 : decode cX6_firstWaiting 59 = .ok (.invokevirtual 228, 3) := by decide +kernel
theorem dX6_firstWaiting_62 : decode cX6_firstWaiting 62 = .ok (.ifCond .eq 19, 3) := by decide +kernel
theorem dX6_firstWaiting_65 : decode cX6_firstWaiting 65 = .ok (.aload_n 2, 1) := by decide +kernel
theorem dX6_firstWaiting_66 : decode cX6_firstWaiting 66 = .ok (.ifnull 12, 3) := by decide +kernel
theorem dX6_firstWaiting_69 : decode cX6_firstWaiting 69 = .ok (.aload 6, 2) := by decide +kernel
theorem dX6_firstWaiting_71 : decode cX6_firstWaiting 71 = .ok (.aload_n 2, 1) := by decide +kernel
theorem dX6_firstWaiting_72 : decode cX6_firstWaiting 72 = .ok (.invokevirtual 271, 3) := by decide +kernel
theorem dX6_firstWaiting_75 : decode cX6_firstWaiting 75 = .ok (.ifCond .eq 6, 3) := by decide +kernel
theorem dX6_firstWaiting_78 : decode cX6_firstWaiting 78 = .ok (.aload 6, 2) := by decide +kernel
theorem dX6_firstWaiting_80 : decode cX6_firstWaiting 80 = .ok (.astore_n 2, 1) := by decide +kernel
theorem dX6_firstWaiting_81 : decode cX6_firstWaiting 81 = .ok (.iinc 5 1, 3) := by decide +kernel
theorem dX6_firstWaiting_84 : decode cX6_firstWaiting 84 = .ok (.goto (-50), 3) := by decide +kernel
theorem dX6_firstWaiting_87 : decode cX6_firstWaiting 87 = .ok (.iinc 3 1, 3) := by decide +kernel
theorem dX6_firstWaiting_90 : decode cX6_firstWaiting 90 = .ok (.goto (-86), 3) := by decide +kernel
theorem dX6_firstWaiting_93 : decode cX6_firstWaiting 93 = .ok (.aload_n 2, 1) := by decide +kernel
theorem dX6_firstWaiting_94 : decode cX6_firstWaiting 94 = .ok (.areturn, 1) := by decide +kernel
theorem dX6_matter_0 : decode cX6_matter 0 = .ok (.aload_n 2, 1) := by decide +kernel
theorem dX6_matter_1 : decode cX6_matter 1 = .ok (.ifnonnull 5, 3) := by decide +kernel
theorem dX6_matter_4 : decode cX6_matter 4 = .ok (.iconst 0, 1) := by decide +kernel
theorem dX6_matter_5 : decode cX6_matter 5 = .ok (.ireturn, 1) := by decide +kernel
theorem dX6_matter_6 : decode cX6_matter 6 = .ok (.iconst 0, 1) := by decide +kernel
theorem dX6_matter_7 : decode cX6_matter 7 = .ok (.istore_n 3, 1) := by decide +kernel
theorem dX6_matter_8 : decode cX6_matter 8 = .ok (.iconst 0, 1) := by decide +kernel
theorem dX6_matter_9 : decode cX6_matter 9 = .ok (.istore 4, 2) := by decide +kernel
theorem dX6_matter_11 : decode cX6_matter 11 = .ok (.iload 4, 2) := by decide +kernel
theorem dX6_matter_13 : decode cX6_matter 13 = .ok (.aload_n 0, 1) := by decide +kernel
theorem dX6_matter_14 : decode cX6_matter 14 = .ok (.getfield 37, 3) := by decide +kernel
theorem dX6_matter_17 : decode cX6_matter 17 = .ok (.invokevirtual 92, 3) := by decide +kernel
theorem dX6_matter_20 : decode cX6_matter 20 = .ok (.if_icmp .ge 77, 3) := by decide +kernel
theorem dX6_matter_23 : decode cX6_matter 23 = .ok (.aload_n 0, 1) := by decide +kernel
theorem dX6_matter_24 : decode cX6_matter 24 = .ok (.getfield 37, 3) := by decide +kernel
theorem dX6_matter_27 : decode cX6_matter 27 = .ok (.iload 4, 2) := by decide +kernel
theorem dX6_matter_29 : decode cX6_matter 29 = .ok (.invokevirtual 224, 3) := by decide +kernel
theorem dX6_matter_32 : decode cX6_matter 32 = .ok (.checkcast 120, 3) := by decide +kernel
theorem dX6_matter_35 : decode cX6_matter 35 = .ok (.astore 5, 2) := by decide +kernel
theorem dX6_matter_37 : decode cX6_matter 37 = .ok (.iconst 0, 1) := by decide +kernel
theorem dX6_matter_38 : decode cX6_matter 38 = .ok (.istore 6, 2) := by decide +kernel
theorem dX6_matter_40 : decode cX6_matter 40 = .ok (.iload 6, 2) := by decide +kernel
theorem dX6_matter_42 : decode cX6_matter 42 = .ok (.aload 5, 2) := by decide +kernel
theorem dX6_matter_44 : decode cX6_matter 44 = .ok (.getfield 155, 3) := by decide +kernel
theorem dX6_matter_47 : decode cX6_matter 47 = .ok (.invokevirtual 92, 3) := by decide +kernel
theorem dX6_matter_50 : decode cX6_matter 50 = .ok (.if_icmp .ge 41, 3) := by decide +kernel
theorem dX6_matter_53 : decode cX6_matter 53 = .ok (.aload 5, 2) := by decide +kernel
theorem dX6_matter_55 : decode cX6_matter 55 = .ok (.getfield 187, 3) := by decide +kernel
theorem dX6_matter_58 : decode cX6_matter 58 = .ok (.iload_n 1, 1) := by decide +kernel
theorem dX6_matter_59 : decode cX6_matter 59 = .ok (.if_icmp .ne 26, 3) := by decide +kernel
theorem dX6_matter_62 : decode cX6_matter 62 = .ok (.aload 5, 2) := by decide +kernel
theorem dX6_matter_64 : decode cX6_matter 64 = .ok (.getfield 155, 3) := by decide +kernel
theorem dX6_matter_67 : decode cX6_matter 67 = .ok (.iload 6, 2) := by decide +kernel
theorem dX6_matter_69 : decode cX6_matter 69 = .ok (.invokevirtual 224, 3) := by decide +kernel
theorem dX6_matter_72 : decode cX6_matter 72 = .ok (.checkcast 135, 3) := by decide +kernel
theorem dX6_matter_75 : decode cX6_matter 75 = .ok (.getfield 177, 3) := by decide +kernel
theorem dX6_matter_78 : decode cX6_matter 78 = .ok (.aload_n 2, 1) := by decide +kernel
theorem dX6_matter_79 : decode cX6_matter 79 = .ok (.if_acmp .ne 6, 3) := by decide +kernel
theorem dX6_matter_82 : decode cX6_matter 82 = .ok (.iinc 3 1, 3) := by decide +kernel
theorem dX6_matter_85 : decode cX6_matter 85 = .ok (.iinc 6 1, 3) := by decide +kernel
theorem dX6_matter_88 : decode cX6_matter 88 = .ok (.goto (-48), 3) := by decide +kernel
theorem dX6_matter_91 : decode cX6_matter 91 = .ok (.iinc 4 1, 3) := by decide +kernel
theorem dX6_matter_94 : decode cX6_matter 94 = .ok (.goto (-83), 3) := by decide +kernel
theorem dX6_matter_97 : decode cX6_matter 97 = .ok (.iload_n 3, 1) := by decide +kernel
theorem dX6_matter_98 : decode cX6_matter 98 = .ok (.ireturn, 1) := by decide +kernel
theorem dX6_fewestTemplates_0 : decode cX6_fewestTemplates 0 = .ok (.iload_n 1, 1) := by decide +kernel
theorem dX6_fewestTemplates_1 : decode cX6_fewestTemplates 1 = .ok (.iconst (-1), 1) := by decide +kernel
theorem dX6_fewestTemplates_2 : decode cX6_fewestTemplates 2 = .ok (.if_icmp .ne 5, 3) := by decide +kernel
theorem dX6_fewestTemplates_5 : decode cX6_fewestTemplates 5 = .ok (.iconst (-1), 1) := by decide +kernel
theorem dX6_fewestTemplates_6 : decode cX6_fewestTemplates 6 = .ok (.ireturn, 1) := by decide +kernel
theorem dX6_fewestTemplates_7 : decode cX6_fewestTemplates 7 = .ok (.iconst (-1), 1) := by decide +kernel
theorem dX6_fewestTemplates_8 : decode cX6_fewestTemplates 8 = .ok (.istore_n 2, 1) := by decide +kernel
theorem dX6_fewestTemplates_9 : decode cX6_fewestTemplates 9 = .ok (.bipush 11, 2) := by decide +kernel
theorem dX6_fewestTemplates_11 : decode cX6_fewestTemplates 11 = .ok (.istore_n 3, 1) := by decide +kernel
theorem dX6_fewestTemplates_12 : decode cX6_fewestTemplates 12 = .ok (.iconst 1, 1) := by decide +kernel
theorem dX6_fewestTemplates_13 : decode cX6_fewestTemplates 13 = .ok (.istore 4, 2) := by decide +kernel
theorem dX6_fewestTemplates_15 : decode cX6_fewestTemplates 15 = .ok (.iload 4, 2) := by decide +kernel
theorem dX6_fewestTemplates_17 : decode cX6_fewestTemplates 17 = .ok (.iconst 1, 1) := by decide +kernel
theorem dX6_fewestTemplates_18 : decode cX6_fewestTemplates 18 = .ok (.aload_n 0, 1) := by decide +kernel
theorem dX6_fewestTemplates_19 : decode cX6_fewestTemplates 19 = .ok (.getfield 47, 3) := by decide +kernel
theorem dX6_fewestTemplates_22 : decode cX6_fewestTemplates 22 = .ok (.ishl, 1) := by decide +kernel
theorem dX6_fewestTemplates_23 : decode cX6_fewestTemplates 23 = .ok (.if_icmp .ge 41, 3) := by decide +kernel
theorem dX6_fewestTemplates_26 : decode cX6_fewestTemplates 26 = .ok (.iload 4, 2) := by decide +kernel
theorem dX6_fewestTemplates_28 : decode cX6_fewestTemplates 28 = .ok (.invokestatic 274, 3) := by decide +kernel
theorem dX6_fewestTemplates_31 : decode cX6_fewestTemplates 31 = .ok (.istore 5, 2) := by decide +kernel
theorem dX6_fewestTemplates_33 : decode cX6_fewestTemplates 33 = .ok (.iload 5, 2) := by decide +kernel
theorem dX6_fewestTemplates_35 : decode cX6_fewestTemplates 35 = .ok (.iload_n 3, 1) := by decide +kernel
theorem dX6_fewestTemplates_36 : decode cX6_fewestTemplates 36 = .ok (.if_icmp .ge 22, 3) := by decide +kernel
theorem dX6_fewestTemplates_39 : decode cX6_fewestTemplates 39 = .ok (.iload_n 1, 1) := by decide +kernel
theorem dX6_fewestTemplates_40 : decode cX6_fewestTemplates 40 = .ok (.aload_n 0, 1) := by decide +kernel
theorem dX6_fewestTemplates_41 : decode cX6_fewestTemplates 41 = .ok (.iload 4, 2) := by decide +kernel
theorem dX6_fewestTemplates_43 : decode cX6_fewestTemplates 43 = .ok (.invokevirtual 279, 3) := by decide +kernel
theorem dX6_fewestTemplates_46 : decode cX6_fewestTemplates 46 = .ok (.iconst (-1), 1) := by decide +kernel
theorem dX6_fewestTemplates_47 : decode cX6_fewestTemplates 47 = .ok (.ixor, 1) := by decide +kernel
theorem dX6_fewestTemplates_48 : decode cX6_fewestTemplates 48 = .ok (.iand, 1) := by decide +kernel
theorem dX6_fewestTemplates_49 : decode cX6_fewestTemplates 49 = .ok (.ifCond .ne 9, 3) := by decide +kernel
theorem dX6_fewestTemplates_52 : decode cX6_fewestTemplates 52 = .ok (.iload 4, 2) := by decide +kernel
theorem dX6_fewestTemplates_54 : decode cX6_fewestTemplates 54 = .ok (.istore_n 2, 1) := by decide +kernel
theorem dX6_fewestTemplates_55 : decode cX6_fewestTemplates 55 = .ok (.iload 5, 2) := by decide +kernel
theorem dX6_fewestTemplates_57 : decode cX6_fewestTemplates 57 = .ok (.istore_n 3, 1) := by decide +kernel
theorem dX6_fewestTemplates_58 : decode cX6_fewestTemplates 58 = .ok (.iinc 4 1, 3) := by decide +kernel
theorem dX6_fewestTemplates_61 : decode cX6_fewestTemplates 61 = .ok (.goto (-46), 3) := by decide +kernel
theorem dX6_fewestTemplates_64 : decode cX6_fewestTemplates 64 = .ok (.iload_n 2, 1) := by decide +kernel
theorem dX6_fewestTemplates_65 : decode cX6_fewestTemplates 65 = .ok (.ireturn, 1) := by decide +kernel
theorem dX6_causesOfSet_0 : decode cX6_causesOfSet 0 = .ok (.iconst 0, 1) := by decide +kernel
theorem dX6_causesOfSet_1 : decode cX6_causesOfSet 1 = .ok (.istore_n 2, 1) := by decide +kernel
theorem dX6_causesOfSet_2 : decode cX6_causesOfSet 2 = .ok (.iconst 0, 1) := by decide +kernel
theorem dX6_causesOfSet_3 : decode cX6_causesOfSet 3 = .ok (.istore_n 3, 1) := by decide +kernel
theorem dX6_causesOfSet_4 : decode cX6_causesOfSet 4 = .ok (.iload_n 3, 1) := by decide +kernel
theorem dX6_causesOfSet_5 : decode cX6_causesOfSet 5 = .ok (.aload_n 0, 1) := by decide +kernel
theorem dX6_causesOfSet_6 : decode cX6_causesOfSet 6 = .ok (.getfield 47, 3) := by decide +kernel
theorem dX6_causesOfSet_9 : decode cX6_causesOfSet 9 = .ok (.if_icmp .ge 36, 3) := by decide +kernel
theorem dX6_causesOfSet_12 : decode cX6_causesOfSet 12 = .ok (.iload_n 3, 1) := by decide +kernel
theorem dX6_causesOfSet_13 : decode cX6_causesOfSet 13 = .ok (.aload_n 0, 1) := by decide +kernel
theorem dX6_causesOfSet_14 : decode cX6_causesOfSet 14 = .ok (.getfield 44, 3) := by decide +kernel
theorem dX6_causesOfSet_17 : decode cX6_causesOfSet 17 = .ok (.arraylength, 1) := by decide +kernel
theorem dX6_causesOfSet_18 : decode cX6_causesOfSet 18 = .ok (.if_icmp .ge 27, 3) := by decide +kernel
theorem dX6_causesOfSet_21 : decode cX6_causesOfSet 21 = .ok (.iload_n 1, 1) := by decide +kernel
theorem dX6_causesOfSet_22 : decode cX6_causesOfSet 22 = .ok (.iload_n 3, 1) := by decide +kernel
theorem dX6_causesOfSet_23 : decode cX6_causesOfSet 23 = .ok (.ishr, 1) := by decide +kernel
theorem dX6_causesOfSet_24 : decode cX6_causesOfSet 24 = .ok (.iconst 1, 1) := by decide +kernel
theorem dX6_causesOfSet_25 : decode cX6_causesOfSet 25 = .ok (.iand, 1) := by decide +kernel
theorem dX6_causesOfSet_26 : decode cX6_causesOfSet 26 = .ok (.iconst 1, 1) := by decide +kernel
theorem dX6_causesOfSet_27 : decode cX6_causesOfSet 27 = .ok (.if_icmp .ne 12, 3) := by decide +kernel
theorem dX6_causesOfSet_30 : decode cX6_causesOfSet 30 = .ok (.iload_n 2, 1) := by decide +kernel
theorem dX6_causesOfSet_31 : decode cX6_causesOfSet 31 = .ok (.aload_n 0, 1) := by decide +kernel
theorem dX6_causesOfSet_32 : decode cX6_causesOfSet 32 = .ok (.getfield 44, 3) := by decide +kernel
theorem dX6_causesOfSet_35 : decode cX6_causesOfSet 35 = .ok (.iload_n 3, 1) := by decide +kernel
theorem dX6_causesOfSet_36 : decode cX6_causesOfSet 36 = .ok (.iaload, 1) := by decide +kernel
theorem dX6_causesOfSet_37 : decode cX6_causesOfSet 37 = .ok (.ior, 1) := by decide +kernel
theorem dX6_causesOfSet_38 : decode cX6_causesOfSet 38 = .ok (.istore_n 2, 1) := by decide +kernel
theorem dX6_causesOfSet_39 : decode cX6_causesOfSet 39 = .ok (.iinc 3 1, 3) := by decide +kernel
theorem dX6_causesOfSet_42 : decode cX6_causesOfSet 42 = .ok (.goto (-38), 3) := by decide +kernel
theorem dX6_causesOfSet_45 : decode cX6_causesOfSet 45 = .ok (.iload_n 2, 1) := by decide +kernel
theorem dX6_causesOfSet_46 : decode cX6_causesOfSet 46 = .ok (.ireturn, 1) := by decide +kernel
theorem dX6_fillDueInDays_0 : decode cX6_fillDueInDays 0 = .ok (.aload_n 0, 1) := by decide +kernel
theorem dX6_fillDueInDays_1 : decode cX6_fillDueInDays 1 = .ok (.getfield 53, 3) := by decide +kernel
theorem dX6_fillDueInDays_4 : decode cX6_fillDueInDays 4 = .ok (.iconst 0, 1) := by decide +kernel
theorem dX6_fillDueInDays_5 : decode cX6_fillDueInDays 5 = .ok (.invokestatic 282, 3) := by decide +kernel
theorem dX6_fillDueInDays_8 : decode cX6_fillDueInDays 8 = .ok (.iconst 0, 1) := by decide +kernel
theorem dX6_fillDueInDays_9 : decode cX6_fillDueInDays 9 = .ok (.istore_n 2, 1) := by decide +kernel
theorem dX6_fillDueInDays_10 : decode cX6_fillDueInDays 10 = .ok (.iconst 0, 1) := by decide +kernel
theorem dX6_fillDueInDays_11 : decode cX6_fillDueInDays 11 = .ok (.istore_n 3, 1) := by decide +kernel
theorem dX6_fillDueInDays_12 : decode cX6_fillDueInDays 12 = .ok (.iload_n 3, 1) := by decide +kernel
theorem dX6_fillDueInDays_13 : decode cX6_fillDueInDays 13 = .ok (.aload_n 0, 1) := by decide +kernel
theorem dX6_fillDueInDays_14 : decode cX6_fillDueInDays 14 = .ok (.getfield 37, 3) := by decide +kernel
theorem dX6_fillDueInDays_17 : decode cX6_fillDueInDays 17 = .ok (.invokevirtual 92, 3) := by decide +kernel
theorem dX6_fillDueInDays_20 : decode cX6_fillDueInDays 20 = .ok (.if_icmp .ge 106, 3) := by decide +kernel
theorem dX6_fillDueInDays_23 : decode cX6_fillDueInDays 23 = .ok (.aload_n 0, 1) := by decide +kernel
theorem dX6_fillDueInDays_24 : decode cX6_fillDueInDays 24 = .ok (.getfield 37, 3) := by decide +kernel
theorem dX6_fillDueInDays_27 : decode cX6_fillDueInDays 27 = .ok (.iload_n 3, 1) := by decide +kernel
theorem dX6_fillDueInDays_28 : decode cX6_fillDueInDays 28 = .ok (.invokevirtual 224, 3) := by decide +kernel
theorem dX6_fillDueInDays_31 : decode cX6_fillDueInDays 31 = .ok (.checkcast 120, 3) := by decide +kernel
theorem dX6_fillDueInDays_34 : decode cX6_fillDueInDays 34 = .ok (.getfield 155, 3) := by decide +kernel
theorem dX6_fillDueInDays_37 : decode cX6_fillDueInDays 37 = .ok (.astore 4, 2) := by decide +kernel
theorem dX6_fillDueInDays_39 : decode cX6_fillDueInDays 39 = .ok (.iconst 0, 1) := by decide +kernel
theorem dX6_fillDueInDays_40 : decode cX6_fillDueInDays 40 = .ok (.istore 5, 2) := by decide +kernel
theorem dX6_fillDueInDays_42 : decode cX6_fillDueInDays 42 = .ok (.iload 5, 2) := by decide +kernel
theorem dX6_fillDueInDays_44 : decode cX6_fillDueInDays 44 = .ok (.aload 4, 2) := by decide +kernel
theorem dX6_fillDueInDays_46 : decode cX6_fillDueInDays 46 = .ok (.invokevirtual 92, 3) := by decide +kernel
theorem dX6_fillDueInDays_49 : decode cX6_fillDueInDays 49 = .ok (.if_icmp .ge 71, 3) := by decide +kernel
theorem dX6_fillDueInDays_52 : decode cX6_fillDueInDays 52 = .ok (.aload 4, 2) := by decide +kernel
theorem dX6_fillDueInDays_54 : decode cX6_fillDueInDays 54 = .ok (.iload 5, 2) := by decide +kernel
theorem dX6_fillDueInDays_56 : decode cX6_fillDueInDays 56 = .ok (.invokevirtual 224, 3) := by decide +kernel
theorem dX6_fillDueInDays_59 : decode cX6_fillDueInDays 59 = .ok (.checkcast 135, 3) := by decide +kernel
theorem dX6_fillDueInDays_62 : decode cX6_fillDueInDays 62 = .ok (.astore 6, 2) := by decide +kernel
theorem dX6_fillDueInDays_64 : decode cX6_fillDueInDays 64 = .ok (.aload 6, 2) := by decide +kernel
theorem dX6_fillDueInDays_66 : decode cX6_fillDueInDays 66 = .ok (.iload_n 1, 1) := by decide +kernel
theorem dX6_fillDueInDays_67 : decode cX6_fillDueInDays 67 = .ok (.invokevirtual 228, 3) := by decide +kernel
theorem dX6_fillDueInDays_70 : decode cX6_fillDueInDays 70 = .ok (.ifCond .eq 44, 3) := by decide +kernel
theorem dX6_fillDueInDays_73 : decode cX6_fillDueInDays 73 = .ok (.iinc 2 1, 3) := by decide +kernel
theorem dX6_fillDueInDays_76 : decode cX6_fillDueInDays 76 = .ok (.aload 6, 2) := by decide +kernel
theorem dX6_fillDueInDays_78 : decode cX6_fillDueInDays 78 = .ok (.getfield 184, 3) := by decide +kernel
theorem dX6_fillDueInDays_81 : decode cX6_fillDueInDays 81 = .ok (.aload_n 0, 1) := by decide +kernel
theorem dX6_fillDueInDays_82 : decode cX6_fillDueInDays 82 = .ok (.getfield 27, 3) := by decide +kernel
theorem dX6_fillDueInDays_85 : decode cX6_fillDueInDays 85 = .ok (.isub, 1) := by decide +kernel
theorem dX6_fillDueInDays_86 : decode cX6_fillDueInDays 86 = .ok (.istore 7, 2) := by decide +kernel
theorem dX6_fillDueInDays_88 : decode cX6_fillDueInDays 88 = .ok (.iload 7, 2) := by decide +kernel
theorem dX6_fillDueInDays_90 : decode cX6_fillDueInDays 90 = .ok (.ifCond .le 24, 3) := by decide +kernel
theorem dX6_fillDueInDays_93 : decode cX6_fillDueInDays 93 = .ok (.iload 7, 2) := by decide +kernel
theorem dX6_fillDueInDays_95 : decode cX6_fillDueInDays 95 = .ok (.aload_n 0, 1) := by decide +kernel
theorem dX6_fillDueInDays_96 : decode cX6_fillDueInDays 96 = .ok (.getfield 53, 3) := by decide +kernel
theorem dX6_fillDueInDays_99 : decode cX6_fillDueInDays 99 = .ok (.arraylength, 1) := by decide +kernel
theorem dX6_fillDueInDays_100 : decode cX6_fillDueInDays 100 = .ok (.if_icmp .ge 14, 3) := by decide +kernel
theorem dX6_fillDueInDays_103 : decode cX6_fillDueInDays 103 = .ok (.aload_n 0, 1) := by decide +kernel
theorem dX6_fillDueInDays_104 : decode cX6_fillDueInDays 104 = .ok (.getfield 53, 3) := by decide +kernel
theorem dX6_fillDueInDays_107 : decode cX6_fillDueInDays 107 = .ok (.iload 7, 2) := by decide +kernel
theorem dX6_fillDueInDays_109 : decode cX6_fillDueInDays 109 = .ok (.dup2, 1) := by decide +kernel
theorem dX6_fillDueInDays_110 : decode cX6_fillDueInDays 110 = .ok (.iaload, 1) := by decide +kernel
theorem dX6_fillDueInDays_111 : decode cX6_fillDueInDays 111 = .ok (.iconst 1, 1) := by decide +kernel
theorem dX6_fillDueInDays_112 : decode cX6_fillDueInDays 112 = .ok (.iadd, 1) := by decide +kernel
theorem dX6_fillDueInDays_113 : decode cX6_fillDueInDays 113 = .ok (.iastore, 1) := by decide +kernel
theorem dX6_fillDueInDays_114 : decode cX6_fillDueInDays 114 = .ok (.iinc 5 1, 3) := by decide +kernel
theorem dX6_fillDueInDays_117 : decode cX6_fillDueInDays 117 = .ok (.goto (-75), 3) := by decide +kernel
theorem dX6_fillDueInDays_120 : decode cX6_fillDueInDays 120 = .ok (.iinc 3 1, 3) := by decide +kernel
theorem dX6_fillDueInDays_123 : decode cX6_fillDueInDays 123 = .ok (.goto (-111), 3) := by decide +kernel
theorem dX6_fillDueInDays_126 : decode cX6_fillDueInDays 126 = .ok (.iload_n 2, 1) := by decide +kernel
theorem dX6_fillDueInDays_127 : decode cX6_fillDueInDays 127 = .ok (.ireturn, 1) := by decide +kernel
theorem dX6_fillCountOfDay_0 : decode cX6_fillCountOfDay 0 = .ok (.aload_n 0, 1) := by decide +kernel
theorem dX6_fillCountOfDay_1 : decode cX6_fillCountOfDay 1 = .ok (.getfield 50, 3) := by decide +kernel
theorem dX6_fillCountOfDay_4 : decode cX6_fillCountOfDay 4 = .ok (.iconst 0, 1) := by decide +kernel
theorem dX6_fillCountOfDay_5 : decode cX6_fillCountOfDay 5 = .ok (.invokestatic 282, 3) := by decide +kernel
theorem dX6_fillCountOfDay_8 : decode cX6_fillCountOfDay 8 = .ok (.iconst 0, 1) := by decide +kernel
theorem dX6_fillCountOfDay_9 : decode cX6_fillCountOfDay 9 = .ok (.istore_n 2, 1) := by decide +kernel
theorem dX6_fillCountOfDay_10 : decode cX6_fillCountOfDay 10 = .ok (.iload_n 2, 1) := by decide +kernel
theorem dX6_fillCountOfDay_11 : decode cX6_fillCountOfDay 11 = .ok (.aload_n 0, 1) := by decide +kernel
theorem dX6_fillCountOfDay_12 : decode cX6_fillCountOfDay 12 = .ok (.getfield 37, 3) := by decide +kernel
theorem dX6_fillCountOfDay_15 : decode cX6_fillCountOfDay 15 = .ok (.invokevirtual 92, 3) := by decide +kernel
theorem dX6_fillCountOfDay_18 : decode cX6_fillCountOfDay 18 = .ok (.if_icmp .ge 57, 3) := by decide +kernel
theorem dX6_fillCountOfDay_21 : decode cX6_fillCountOfDay 21 = .ok (.aload_n 0, 1) := by decide +kernel
theorem dX6_fillCountOfDay_22 : decode cX6_fillCountOfDay 22 = .ok (.getfield 37, 3) := by decide +kernel
theorem dX6_fillCountOfDay_25 : decode cX6_fillCountOfDay 25 = .ok (.iload_n 2, 1) := by decide +kernel
theorem dX6_fillCountOfDay_26 : decode cX6_fillCountOfDay 26 = .ok (.invokevirtual 224, 3) := by decide +kernel
theorem dX6_fillCountOfDay_29 : decode cX6_fillCountOfDay 29 = .ok (.checkcast 120, 3) := by decide +kernel
theorem dX6_fillCountOfDay_32 : decode cX6_fillCountOfDay 32 = .ok (.astore_n 3, 1) := by decide +kernel
theorem dX6_fillCountOfDay_33 : decode cX6_fillCountOfDay 33 = .ok (.aload_n 3, 1) := by decide +kernel
theorem dX6_fillCountOfDay_34 : decode cX6_fillCountOfDay 34 = .ok (.getfield 148, 3) := by decide +kernel
theorem dX6_fillCountOfDay_37 : decode cX6_fillCountOfDay 37 = .ok (.ifCond .lt 32, 3) := by decide +kernel
theorem dX6_fillCountOfDay_40 : decode cX6_fillCountOfDay 40 = .ok (.aload_n 3, 1) := by decide +kernel
theorem dX6_fillCountOfDay_41 : decode cX6_fillCountOfDay 41 = .ok (.getfield 148, 3) := by decide +kernel
theorem dX6_fillCountOfDay_44 : decode cX6_fillCountOfDay 44 = .ok (.aload_n 0, 1) := by decide +kernel
theorem dX6_fillCountOfDay_45 : decode cX6_fillCountOfDay 45 = .ok (.getfield 50, 3) := by decide +kernel
theorem dX6_fillCountOfDay_48 : decode cX6_fillCountOfDay 48 = .ok (.arraylength, 1) := by decide +kernel
theorem dX6_fillCountOfDay_49 : decode cX6_fillCountOfDay 49 = .ok (.if_icmp .ge 20, 3) := by decide +kernel
theorem dX6_fillCountOfDay_52 : decode cX6_fillCountOfDay 52 = .ok (.aload_n 0, 1) := by decide +kernel
theorem dX6_fillCountOfDay_53 : decode cX6_fillCountOfDay 53 = .ok (.getfield 50, 3) := by decide +kernel
theorem dX6_fillCountOfDay_56 : decode cX6_fillCountOfDay 56 = .ok (.aload_n 3, 1) := by decide +kernel
theorem dX6_fillCountOfDay_57 : decode cX6_fillCountOfDay 57 = .ok (.getfield 148, 3) := by decide +kernel
theorem dX6_fillCountOfDay_60 : decode cX6_fillCountOfDay 60 = .ok (.dup2, 1) := by decide +kernel
theorem dX6_fillCountOfDay_61 : decode cX6_fillCountOfDay 61 = .ok (.iaload, 1) := by decide +kernel
theorem dX6_fillCountOfDay_62 : decode cX6_fillCountOfDay 62 = .ok (.aload_n 3, 1) := by decide +kernel
theorem dX6_fillCountOfDay_63 : decode cX6_fillCountOfDay 63 = .ok (.aload_n 1, 1) := by decide +kernel
theorem dX6_fillCountOfDay_64 : decode cX6_fillCountOfDay 64 = .ok (.invokevirtual 288, 3) := by decide +kernel
theorem dX6_fillCountOfDay_67 : decode cX6_fillCountOfDay 67 = .ok (.iadd, 1) := by decide +kernel
theorem dX6_fillCountOfDay_68 : decode cX6_fillCountOfDay 68 = .ok (.iastore, 1) := by decide +kernel
theorem dX6_fillCountOfDay_69 : decode cX6_fillCountOfDay 69 = .ok (.iinc 2 1, 3) := by decide +kernel
theorem dX6_fillCountOfDay_72 : decode cX6_fillCountOfDay 72 = .ok (.goto (-62), 3) := by decide +kernel
theorem dX6_fillCountOfDay_75 : decode cX6_fillCountOfDay 75 = .ok (.return_, 1) := by decide +kernel
theorem dX6_isRare_0 : decode cX6_isRare 0 = .ok (.iload_n 1, 1) := by decide +kernel
theorem dX6_isRare_1 : decode cX6_isRare 1 = .ok (.ifCond .lt 22, 3) := by decide +kernel
theorem dX6_isRare_4 : decode cX6_isRare 4 = .ok (.iload_n 1, 1) := by decide +kernel
theorem dX6_isRare_5 : decode cX6_isRare 5 = .ok (.aload_n 0, 1) := by decide +kernel
theorem dX6_isRare_6 : decode cX6_isRare 6 = .ok (.getfield 50, 3) := by decide +kernel
theorem dX6_isRare_9 : decode cX6_isRare 9 = .ok (.arraylength, 1) := by decide +kernel
theorem dX6_isRare_10 : decode cX6_isRare 10 = .ok (.if_icmp .ge 13, 3) := by decide +kernel
theorem dX6_isRare_13 : decode cX6_isRare 13 = .ok (.aload_n 0, 1) := by decide +kernel
theorem dX6_isRare_14 : decode cX6_isRare 14 = .ok (.getfield 50, 3) := by decide +kernel
theorem dX6_isRare_17 : decode cX6_isRare 17 = .ok (.iload_n 1, 1) := by decide +kernel
theorem dX6_isRare_18 : decode cX6_isRare 18 = .ok (.iaload, 1) := by decide +kernel
theorem dX6_isRare_19 : decode cX6_isRare 19 = .ok (.iconst 2, 1) := by decide +kernel
theorem dX6_isRare_20 : decode cX6_isRare 20 = .ok (.if_icmp .ge 5, 3) := by decide +kernel
theorem dX6_isRare_23 : decode cX6_isRare 23 = .ok (.iconst 0, 1) := by decide +kernel
theorem dX6_isRare_24 : decode cX6_isRare 24 = .ok (.ireturn, 1) := by decide +kernel
theorem dX6_isRare_25 : decode cX6_isRare 25 = .ok (.iconst 0, 1) := by decide +kernel
theorem dX6_isRare_26 : decode cX6_isRare 26 = .ok (.istore_n 2, 1) := by decide +kernel
theorem dX6_isRare_27 : decode cX6_isRare 27 = .ok (.iconst 0, 1) := by decide +kernel
theorem dX6_isRare_28 : decode cX6_isRare 28 = .ok (.istore_n 3, 1) := by decide +kernel
theorem dX6_isRare_29 : decode cX6_isRare 29 = .ok (.iload_n 3, 1) := by decide +kernel
theorem dX6_isRare_30 : decode cX6_isRare 30 = .ok (.iload_n 1, 1) := by decide +kernel
theorem dX6_isRare_31 : decode cX6_isRare 31 = .ok (.if_icmp .ge 27, 3) := by decide +kernel
theorem dX6_isRare_34 : decode cX6_isRare 34 = .ok (.aload_n 0, 1) := by decide +kernel
theorem dX6_isRare_35 : decode cX6_isRare 35 = .ok (.getfield 50, 3) := by decide +kernel
theorem dX6_isRare_38 : decode cX6_isRare 38 = .ok (.iload_n 3, 1) := by decide +kernel
theorem dX6_isRare_39 : decode cX6_isRare 39 = .ok (.iaload, 1) := by decide +kernel
theorem dX6_isRare_40 : decode cX6_isRare 40 = .ok (.aload_n 0, 1) := by decide +kernel
theorem dX6_isRare_41 : decode cX6_isRare 41 = .ok (.getfield 50, 3) := by decide +kernel
theorem dX6_isRare_44 : decode cX6_isRare 44 = .ok (.iload_n 1, 1) := by decide +kernel
theorem dX6_isRare_45 : decode cX6_isRare 45 = .ok (.iaload, 1) := by decide +kernel
theorem dX6_isRare_46 : decode cX6_isRare 46 = .ok (.if_icmp .lt 6, 3) := by decide +kernel
theorem dX6_isRare_49 : decode cX6_isRare 49 = .ok (.iinc 2 1, 3) := by decide +kernel
theorem dX6_isRare_52 : decode cX6_isRare 52 = .ok (.iinc 3 1, 3) := by decide +kernel
theorem dX6_isRare_55 : decode cX6_isRare 55 = .ok (.goto (-26), 3) := by decide +kernel
theorem dX6_isRare_58 : decode cX6_isRare 58 = .ok (.iload_n 2, 1) := by decide +kernel
theorem dX6_isRare_59 : decode cX6_isRare 59 = .ok (.iconst 1, 1) := by decide +kernel
theorem dX6_isRare_60 : decode cX6_isRare 60 = .ok (.iadd, 1) := by decide +kernel
theorem dX6_isRare_61 : decode cX6_isRare 61 = .ok (.bipush 20, 2) := by decide +kernel
theorem dX6_isRare_63 : decode cX6_isRare 63 = .ok (.imul, 1) := by decide +kernel
theorem dX6_isRare_64 : decode cX6_isRare 64 = .ok (.iload_n 1, 1) := by decide +kernel
theorem dX6_isRare_65 : decode cX6_isRare 65 = .ok (.iconst 1, 1) := by decide +kernel
theorem dX6_isRare_66 : decode cX6_isRare 66 = .ok (.iadd, 1) := by decide +kernel
theorem dX6_isRare_67 : decode cX6_isRare 67 = .ok (.if_icmp .gt 7, 3) := by decide +kernel
theorem dX6_isRare_70 : decode cX6_isRare 70 = .ok (.iconst 1, 1) := by decide +kernel
theorem dX6_isRare_71 : decode cX6_isRare 71 = .ok (.goto 4, 3) := by decide +kernel
theorem dX6_isRare_74 : decode cX6_isRare 74 = .ok (.iconst 0, 1) := by decide +kernel
theorem dX6_isRare_75 : decode cX6_isRare 75 = .ok (.ireturn, 1) := by decide +kernel
theorem dX6_closedLetters_0 : decode cX6_closedLetters 0 = .ok (.iconst 0, 1) := by decide +kernel
theorem dX6_closedLetters_1 : decode cX6_closedLetters 1 = .ok (.istore_n 1, 1) := by decide +kernel
theorem dX6_closedLetters_2 : decode cX6_closedLetters 2 = .ok (.iconst 0, 1) := by decide +kernel
theorem dX6_closedLetters_3 : decode cX6_closedLetters 3 = .ok (.istore_n 2, 1) := by decide +kernel
theorem dX6_closedLetters_4 : decode cX6_closedLetters 4 = .ok (.iload_n 2, 1) := by decide +kernel
theorem dX6_closedLetters_5 : decode cX6_closedLetters 5 = .ok (.aload_n 0, 1) := by decide +kernel
theorem dX6_closedLetters_6 : decode cX6_closedLetters 6 = .ok (.getfield 37, 3) := by decide +kernel
theorem dX6_closedLetters_9 : decode cX6_closedLetters 9 = .ok (.invokevirtual 92, 3) := by decide +kernel
theorem dX6_closedLetters_12 : decode cX6_closedLetters 12 = .ok (.if_icmp .ge 29, 3) := by decide +kernel
theorem dX6_closedLetters_15 : decode cX6_closedLetters 15 = .ok (.aload_n 0, 1) := by decide +kernel
theorem dX6_closedLetters_16 : decode cX6_closedLetters 16 = .ok (.getfield 37, 3) := by decide +kernel
theorem dX6_closedLetters_19 : decode cX6_closedLetters 19 = .ok (.iload_n 2, 1) := by decide +kernel
theorem dX6_closedLetters_20 : decode cX6_closedLetters 20 = .ok (.invokevirtual 224, 3) := by decide +kernel
theorem dX6_closedLetters_23 : decode cX6_closedLetters 23 = .ok (.checkcast 120, 3) := by decide +kernel
theorem dX6_closedLetters_26 : decode cX6_closedLetters 26 = .ok (.invokevirtual 203, 3) := by decide +kernel
theorem dX6_closedLetters_29 : decode cX6_closedLetters 29 = .ok (.ifCond .eq 6, 3) := by decide +kernel
theorem dX6_closedLetters_32 : decode cX6_closedLetters 32 = .ok (.iinc 1 1, 3) := by decide +kernel
theorem dX6_closedLetters_35 : decode cX6_closedLetters 35 = .ok (.iinc 2 1, 3) := by decide +kernel
theorem dX6_closedLetters_38 : decode cX6_closedLetters 38 = .ok (.goto (-34), 3) := by decide +kernel
theorem dX6_closedLetters_41 : decode cX6_closedLetters 41 = .ok (.iload_n 1, 1) := by decide +kernel
theorem dX6_closedLetters_42 : decode cX6_closedLetters 42 = .ok (.ireturn, 1) := by decide +kernel
theorem dX6_pointsCounted_0 : decode cX6_pointsCounted 0 = .ok (.iconst 0, 1) := by decide +kernel
theorem dX6_pointsCounted_1 : decode cX6_pointsCounted 1 = .ok (.istore_n 2, 1) := by decide +kernel
theorem dX6_pointsCounted_2 : decode cX6_pointsCounted 2 = .ok (.iconst 0, 1) := by decide +kernel
theorem dX6_pointsCounted_3 : decode cX6_pointsCounted 3 = .ok (.istore_n 3, 1) := by decide +kernel
theorem dX6_pointsCounted_4 : decode cX6_pointsCounted 4 = .ok (.iload_n 3, 1) := by decide +kernel
theorem dX6_pointsCounted_5 : decode cX6_pointsCounted 5 = .ok (.aload_n 0, 1) := by decide +kernel
theorem dX6_pointsCounted_6 : decode cX6_pointsCounted 6 = .ok (.getfield 37, 3) := by decide +kernel
theorem dX6_pointsCounted_9 : decode cX6_pointsCounted 9 = .ok (.invokevirtual 92, 3) := by decide +kernel
theorem dX6_pointsCounted_12 : decode cX6_pointsCounted 12 = .ok (.if_icmp .ge 64, 3) := by decide +kernel
theorem dX6_pointsCounted_15 : decode cX6_pointsCounted 15 = .ok (.aload_n 0, 1) := by decide +kernel
theorem dX6_pointsCounted_16 : decode cX6_pointsCounted 16 = .ok (.getfield 37, 3) := by decide +kernel
theorem dX6_pointsCounted_19 : decode cX6_pointsCounted 19 = .ok (.iload_n 3, 1) := by decide +kernel
theorem dX6_pointsCounted_20 : decode cX6_pointsCounted 20 = .ok (.invokevirtual 224, 3) := by decide +kernel
theorem dX6_pointsCounted_23 : decode cX6_pointsCounted 23 = .ok (.checkcast 120, 3) := by decide +kernel
theorem dX6_pointsCounted_26 : decode cX6_pointsCounted 26 = .ok (.getfield 155, 3) := by decide +kernel
theorem dX6_pointsCounted_29 : decode cX6_pointsCounted 29 = .ok (.astore 4, 2) := by decide +kernel
theorem dX6_pointsCounted_31 : decode cX6_pointsCounted 31 = .ok (.iconst 0, 1) := by decide +kernel
theorem dX6_pointsCounted_32 : decode cX6_pointsCounted 32 = .ok (.istore 5, 2) := by decide +kernel
theorem dX6_pointsCounted_34 : decode cX6_pointsCounted 34 = .ok (.iload 5, 2) := by decide +kernel
theorem dX6_pointsCounted_36 : decode cX6_pointsCounted 36 = .ok (.aload 4, 2) := by decide +kernel
theorem dX6_pointsCounted_38 : decode cX6_pointsCounted 38 = .ok (.invokevirtual 92, 3) := by decide +kernel
theorem dX6_pointsCounted_41 : decode cX6_pointsCounted 41 = .ok (.if_icmp .ge 29, 3) := by decide +kernel
theorem dX6_pointsCounted_44 : decode cX6_pointsCounted 44 = .ok (.aload 4, 2) := by decide +kernel
theorem dX6_pointsCounted_46 : decode cX6_pointsCounted 46 = .ok (.iload 5, 2) := by decide +kernel
theorem dX6_pointsCounted_48 : decode cX6_pointsCounted 48 = .ok (.invokevirtual 224, 3) := by decide +kernel
theorem dX6_pointsCounted_51 : decode cX6_pointsCounted 51 = .ok (.checkcast 135, 3) := by decide +kernel
theorem dX6_pointsCounted_54 : decode cX6_pointsCounted 54 = .ok (.iload_n 1, 1) := by decide +kernel
theorem dX6_pointsCounted_55 : decode cX6_pointsCounted 55 = .ok (.invokevirtual 292, 3) := by decide +kernel
theorem dX6_pointsCounted_58 : decode cX6_pointsCounted 58 = .ok (.ifCond .eq 6, 3) := by decide +kernel
theorem dX6_pointsCounted_61 : decode cX6_pointsCounted 61 = .ok (.iinc 2 1, 3) := by decide +kernel
theorem dX6_pointsCounted_64 : decode cX6_pointsCounted 64 = .ok (.iinc 5 1, 3) := by decide +kernel
theorem dX6_pointsCounted_67 : decode cX6_pointsCounted 67 = .ok (.goto (-33), 3) := by decide +kernel
theorem dX6_pointsCounted_70 : decode cX6_pointsCounted 70 = .ok (.iinc 3 1, 3) := by decide +kernel
theorem dX6_pointsCounted_73 : decode cX6_pointsCounted 73 = .ok (.goto (-69), 3) := by decide +kernel
theorem dX6_pointsCounted_76 : decode cX6_pointsCounted 76 = .ok (.iload_n 2, 1) := by decide +kernel
theorem dX6_pointsCounted_77 : decode cX6_pointsCounted 77 = .ok (.ireturn, 1) := by decide +kernel
